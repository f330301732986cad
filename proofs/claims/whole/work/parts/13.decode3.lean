theorem d_md_setIn_1 : decode prog_7_method_22_code 1 = .ok (.istore_n 3, 1) := by decide +kernel
theorem d_md_setIn_2 : decode prog_7_method_22_code 2 = .ok (.iconst 0, 1) := by decide +kernel
theorem d_md_setIn_3 : decode prog_7_method_22_code 3 = .ok (.istore 4, 2) := by decide +kernel
theorem d_md_setIn_5 : decode prog_7_method_22_code 5 = .ok (.iload 4, 2) := by decide +kernel
theorem d_md_setIn_7 : decode prog_7_method_22_code 7 = .ok (.aload_n 0, 1) := by decide +kernel
theorem d_md_setIn_8 : decode prog_7_method_22_code 8 = .ok (.getfield 78, 3) := by decide +kernel
theorem d_md_setIn_11 : decode prog_7_method_22_code 11 = .ok (.if_icmp .ge 30, 3) := by decide +kernel
theorem d_md_setIn_14 : decode prog_7_method_22_code 14 = .ok (.iload_n 3, 1) := by decide +kernel
theorem d_md_setIn_15 : decode prog_7_method_22_code 15 = .ok (.iload_n 1, 1) := by decide +kernel
theorem d_md_setIn_16 : decode prog_7_method_22_code 16 = .ok (.iload 4, 2) := by decide +kernel
theorem d_md_setIn_18 : decode prog_7_method_22_code 18 = .ok (.invokestatic 136, 3) := by decide +kernel
theorem d_md_setIn_21 : decode prog_7_method_22_code 21 = .ok (.iload_n 2, 1) := by decide +kernel
theorem d_md_setIn_22 : decode prog_7_method_22_code 22 = .ok (.if_icmp .ne 10, 3) := by decide +kernel
theorem d_md_setIn_25 : decode prog_7_method_22_code 25 = .ok (.iconst 1, 1) := by decide +kernel
theorem d_md_setIn_26 : decode prog_7_method_22_code 26 = .ok (.iload 4, 2) := by decide +kernel
theorem d_md_setIn_28 : decode prog_7_method_22_code 28 = .ok (.ishl, 1) := by decide +kernel
theorem d_md_setIn_29 : decode prog_7_method_22_code 29 = .ok (.goto 4, 3) := by decide +kernel
theorem d_md_setIn_32 : decode prog_7_method_22_code 32 = .ok (.iconst 0, 1) := by decide +kernel
theorem d_md_setIn_33 : decode prog_7_method_22_code 33 = .ok (.ior, 1) := by decide +kernel
theorem d_md_setIn_34 : decode prog_7_method_22_code 34 = .ok (.istore_n 3, 1) := by decide +kernel
theorem d_md_setIn_35 : decode prog_7_method_22_code 35 = .ok (.iinc 4 1, 3) := by decide +kernel
theorem d_md_setIn_38 : decode prog_7_method_22_code 38 = .ok (.goto (-33), 3) := by decide +kernel
theorem d_md_setIn_41 : decode prog_7_method_22_code 41 = .ok (.iload_n 3, 1) := by decide +kernel
theorem d_md_setIn_42 : decode prog_7_method_22_code 42 = .ok (.ireturn, 1) := by decide +kernel
theorem d_md_costOf_0 : decode prog_7_method_23_code 0 = .ok (.iconst 0, 1) := by decide +kernel
theorem d_md_costOf_1 : decode prog_7_method_23_code 1 = .ok (.istore_n 3, 1) := by decide +kernel
theorem d_md_costOf_2 : decode prog_7_method_23_code 2 = .ok (.iload_n 3, 1) := by decide +kernel
theorem d_md_costOf_3 : decode prog_7_method_23_code 3 = .ok (.bipush 7, 2) := by decide +kernel
theorem d_md_costOf_5 : decode prog_7_method_23_code 5 = .ok (.if_icmp .ge 51, 3) := by decide +kernel
theorem d_md_costOf_8 : decode prog_7_method_23_code 8 = .ok (.iload_n 1, 1) := by decide +kernel
theorem d_md_costOf_9 : decode prog_7_method_23_code 9 = .ok (.iload_n 3, 1) := by decide +kernel
theorem d_md_costOf_10 : decode prog_7_method_23_code 10 = .ok (.invokestatic 136, 3) := by decide +kernel
theorem d_md_costOf_13 : decode prog_7_method_23_code 13 = .ok (.istore 4, 2) := by decide +kernel
theorem d_md_costOf_15 : decode prog_7_method_23_code 15 = .ok (.iload_n 3, 1) := by decide +kernel
theorem d_md_costOf_16 : decode prog_7_method_23_code 16 = .ok (.aload_n 0, 1) := by decide +kernel
theorem d_md_costOf_17 : decode prog_7_method_23_code 17 = .ok (.getfield 78, 3) := by decide +kernel
theorem d_md_costOf_20 : decode prog_7_method_23_code 20 = .ok (.if_icmp .lt 11, 3) := by decide +kernel
theorem d_md_costOf_23 : decode prog_7_method_23_code 23 = .ok (.iload 4, 2) := by decide +kernel
theorem d_md_costOf_25 : decode prog_7_method_23_code 25 = .ok (.ifCond .le 25, 3) := by decide +kernel
theorem d_md_costOf_28 : decode prog_7_method_23_code 28 = .ok (.goto 18, 3) := by decide +kernel
theorem d_md_costOf_31 : decode prog_7_method_23_code 31 = .ok (.iload 4, 2) := by decide +kernel
theorem d_md_costOf_33 : decode prog_7_method_23_code 33 = .ok (.iconst 3, 1) := by decide +kernel
theorem d_md_costOf_34 : decode prog_7_method_23_code 34 = .ok (.if_icmp .ge 16, 3) := by decide +kernel
theorem d_md_costOf_37 : decode prog_7_method_23_code 37 = .ok (.iload 4, 2) := by decide +kernel
theorem d_md_costOf_39 : decode prog_7_method_23_code 39 = .ok (.aload_n 0, 1) := by decide +kernel
theorem d_md_costOf_40 : decode prog_7_method_23_code 40 = .ok (.getfield 99, 3) := by decide +kernel
theorem d_md_costOf_43 : decode prog_7_method_23_code 43 = .ok (.if_icmp .lt 7, 3) := by decide +kernel
theorem d_md_costOf_46 : decode prog_7_method_23_code 46 = .ok (.ldc2_w 139, 3) := by decide +kernel
theorem d_md_costOf_49 : decode prog_7_method_23_code 49 = .ok (.lreturn, 1) := by decide +kernel
theorem d_md_costOf_50 : decode prog_7_method_23_code 50 = .ok (.iinc 3 1, 3) := by decide +kernel
theorem d_md_costOf_53 : decode prog_7_method_23_code 53 = .ok (.goto (-51), 3) := by decide +kernel
theorem d_md_costOf_56 : decode prog_7_method_23_code 56 = .ok (.lconst 0, 1) := by decide +kernel
theorem d_md_costOf_57 : decode prog_7_method_23_code 57 = .ok (.lstore_n 3, 1) := by decide +kernel
theorem d_md_costOf_58 : decode prog_7_method_23_code 58 = .ok (.iconst 0, 1) := by decide +kernel
theorem d_md_costOf_59 : decode prog_7_method_23_code 59 = .ok (.istore 5, 2) := by decide +kernel
theorem d_md_costOf_61 : decode prog_7_method_23_code 61 = .ok (.iload 5, 2) := by decide +kernel
theorem d_md_costOf_63 : decode prog_7_method_23_code 63 = .ok (.aload_n 0, 1) := by decide +kernel
theorem d_md_costOf_64 : decode prog_7_method_23_code 64 = .ok (.getfield 78, 3) := by decide +kernel
theorem d_md_costOf_67 : decode prog_7_method_23_code 67 = .ok (.if_icmp .ge 33, 3) := by decide +kernel
theorem d_md_costOf_70 : decode prog_7_method_23_code 70 = .ok (.lload_n 3, 1) := by decide +kernel
theorem d_md_costOf_71 : decode prog_7_method_23_code 71 = .ok (.iload_n 1, 1) := by decide +kernel
theorem d_md_costOf_72 : decode prog_7_method_23_code 72 = .ok (.iload 5, 2) := by decide +kernel
theorem d_md_costOf_74 : decode prog_7_method_23_code 74 = .ok (.invokestatic 136, 3) := by decide +kernel
theorem d_md_costOf_77 : decode prog_7_method_23_code 77 = .ok (.iconst 3, 1) := by decide +kernel
theorem d_md_costOf_78 : decode prog_7_method_23_code 78 = .ok (.if_icmp .ne 13, 3) := by decide +kernel
theorem d_md_costOf_81 : decode prog_7_method_23_code 81 = .ok (.aload_n 0, 1) := by decide +kernel
theorem d_md_costOf_82 : decode prog_7_method_23_code 82 = .ok (.getfield 22, 3) := by decide +kernel
theorem d_md_costOf_85 : decode prog_7_method_23_code 85 = .ok (.iload 5, 2) := by decide +kernel
theorem d_md_costOf_87 : decode prog_7_method_23_code 87 = .ok (.laload, 1) := by decide +kernel
theorem d_md_costOf_88 : decode prog_7_method_23_code 88 = .ok (.goto 4, 3) := by decide +kernel
theorem d_md_costOf_91 : decode prog_7_method_23_code 91 = .ok (.lconst 0, 1) := by decide +kernel
theorem d_md_costOf_92 : decode prog_7_method_23_code 92 = .ok (.ladd, 1) := by decide +kernel
theorem d_md_costOf_93 : decode prog_7_method_23_code 93 = .ok (.lstore_n 3, 1) := by decide +kernel
theorem d_md_costOf_94 : decode prog_7_method_23_code 94 = .ok (.iinc 5 1, 3) := by decide +kernel
theorem d_md_costOf_97 : decode prog_7_method_23_code 97 = .ok (.goto (-36), 3) := by decide +kernel
theorem d_md_costOf_100 : decode prog_7_method_23_code 100 = .ok (.iconst 0, 1) := by decide +kernel
theorem d_md_costOf_101 : decode prog_7_method_23_code 101 = .ok (.istore 5, 2) := by decide +kernel
theorem d_md_costOf_103 : decode prog_7_method_23_code 103 = .ok (.iload 5, 2) := by decide +kernel
theorem d_md_costOf_105 : decode prog_7_method_23_code 105 = .ok (.aload_n 0, 1) := by decide +kernel
theorem d_md_costOf_106 : decode prog_7_method_23_code 106 = .ok (.getfield 99, 3) := by decide +kernel
theorem d_md_costOf_109 : decode prog_7_method_23_code 109 = .ok (.if_icmp .ge 85, 3) := by decide +kernel
theorem d_md_costOf_112 : decode prog_7_method_23_code 112 = .ok (.aload_n 0, 1) := by decide +kernel
theorem d_md_costOf_113 : decode prog_7_method_23_code 113 = .ok (.iload_n 1, 1) := by decide +kernel
theorem d_md_costOf_114 : decode prog_7_method_23_code 114 = .ok (.iload 5, 2) := by decide +kernel
theorem d_md_costOf_116 : decode prog_7_method_23_code 116 = .ok (.invokevirtual 141, 3) := by decide +kernel
theorem d_md_costOf_119 : decode prog_7_method_23_code 119 = .ok (.istore 6, 2) := by decide +kernel
theorem d_md_costOf_121 : decode prog_7_method_23_code 121 = .ok (.iload 6, 2) := by decide +kernel
theorem d_md_costOf_123 : decode prog_7_method_23_code 123 = .ok (.ifCond .eq 65, 3) := by decide +kernel
theorem d_md_costOf_126 : decode prog_7_method_23_code 126 = .ok (.iload 5, 2) := by decide +kernel
theorem d_md_costOf_128 : decode prog_7_method_23_code 128 = .ok (.iload_n 2, 1) := by decide +kernel
theorem d_md_costOf_129 : decode prog_7_method_23_code 129 = .ok (.if_icmp .eq 20, 3) := by decide +kernel
theorem d_md_costOf_132 : decode prog_7_method_23_code 132 = .ok (.aload_n 0, 1) := by decide +kernel
theorem d_md_costOf_133 : decode prog_7_method_23_code 133 = .ok (.getfield 51, 3) := by decide +kernel
theorem d_md_costOf_136 : decode prog_7_method_23_code 136 = .ok (.sipush 128, 3) := by decide +kernel
theorem d_md_costOf_139 : decode prog_7_method_23_code 139 = .ok (.iload 5, 2) := by decide +kernel
theorem d_md_costOf_141 : decode prog_7_method_23_code 141 = .ok (.imul, 1) := by decide +kernel
theorem d_md_costOf_142 : decode prog_7_method_23_code 142 = .ok (.iload 6, 2) := by decide +kernel
theorem d_md_costOf_144 : decode prog_7_method_23_code 144 = .ok (.iadd, 1) := by decide +kernel
theorem d_md_costOf_145 : decode prog_7_method_23_code 145 = .ok (.iaload, 1) := by decide +kernel
theorem d_md_costOf_146 : decode prog_7_method_23_code 146 = .ok (.ifCond .ge 7, 3) := by decide +kernel
theorem d_md_costOf_149 : decode prog_7_method_23_code 149 = .ok (.ldc2_w 139, 3) := by decide +kernel
theorem d_md_costOf_152 : decode prog_7_method_23_code 152 = .ok (.lreturn, 1) := by decide +kernel
theorem d_md_costOf_153 : decode prog_7_method_23_code 153 = .ok (.lload_n 3, 1) := by decide +kernel
theorem d_md_costOf_154 : decode prog_7_method_23_code 154 = .ok (.aload_n 0, 1) := by decide +kernel
theorem d_md_costOf_155 : decode prog_7_method_23_code 155 = .ok (.getfield 45, 3) := by decide +kernel
theorem d_md_costOf_158 : decode prog_7_method_23_code 158 = .ok (.iload 5, 2) := by decide +kernel
theorem d_md_costOf_160 : decode prog_7_method_23_code 160 = .ok (.iaload, 1) := by decide +kernel
theorem d_md_costOf_161 : decode prog_7_method_23_code 161 = .ok (.i2l, 1) := by decide +kernel
theorem d_md_costOf_162 : decode prog_7_method_23_code 162 = .ok (.aload_n 0, 1) := by decide +kernel
theorem d_md_costOf_163 : decode prog_7_method_23_code 163 = .ok (.getfield 51, 3) := by decide +kernel
theorem d_md_costOf_166 : decode prog_7_method_23_code 166 = .ok (.sipush 128, 3) := by decide +kernel
theorem d_md_costOf_169 : decode prog_7_method_23_code 169 = .ok (.iload 5, 2) := by decide +kernel
theorem d_md_costOf_171 : decode prog_7_method_23_code 171 = .ok (.imul, 1) := by decide +kernel
theorem d_md_costOf_172 : decode prog_7_method_23_code 172 = .ok (.iload 6, 2) := by decide +kernel
theorem d_md_costOf_174 : decode prog_7_method_23_code 174 = .ok (.iadd, 1) := by decide +kernel
theorem d_md_costOf_175 : decode prog_7_method_23_code 175 = .ok (.iaload, 1) := by decide +kernel
theorem d_md_costOf_176 : decode prog_7_method_23_code 176 = .ok (.aload_n 0, 1) := by decide +kernel
theorem d_md_costOf_177 : decode prog_7_method_23_code 177 = .ok (.getfield 39, 3) := by decide +kernel
theorem d_md_costOf_180 : decode prog_7_method_23_code 180 = .ok (.iload 5, 2) := by decide +kernel
theorem d_md_costOf_182 : decode prog_7_method_23_code 182 = .ok (.iaload, 1) := by decide +kernel
theorem d_md_costOf_183 : decode prog_7_method_23_code 183 = .ok (.isub, 1) := by decide +kernel
theorem d_md_costOf_184 : decode prog_7_method_23_code 184 = .ok (.i2l, 1) := by decide +kernel
theorem d_md_costOf_185 : decode prog_7_method_23_code 185 = .ok (.lmul, 1) := by decide +kernel
theorem d_md_costOf_186 : decode prog_7_method_23_code 186 = .ok (.ladd, 1) := by decide +kernel
theorem d_md_costOf_187 : decode prog_7_method_23_code 187 = .ok (.lstore_n 3, 1) := by decide +kernel
theorem d_md_costOf_188 : decode prog_7_method_23_code 188 = .ok (.iinc 5 1, 3) := by decide +kernel
theorem d_md_costOf_191 : decode prog_7_method_23_code 191 = .ok (.goto (-88), 3) := by decide +kernel
theorem d_md_costOf_194 : decode prog_7_method_23_code 194 = .ok (.lload_n 3, 1) := by decide +kernel
theorem d_md_costOf_195 : decode prog_7_method_23_code 195 = .ok (.lreturn, 1) := by decide +kernel
theorem d_md_bestPlan_0 : decode prog_7_method_24_code 0 = .ok (.iconst (-1), 1) := by decide +kernel
theorem d_md_bestPlan_1 : decode prog_7_method_24_code 1 = .ok (.istore_n 2, 1) := by decide +kernel
theorem d_md_bestPlan_2 : decode prog_7_method_24_code 2 = .ok (.lconst 0, 1) := by decide +kernel
theorem d_md_bestPlan_3 : decode prog_7_method_24_code 3 = .ok (.lstore_n 3, 1) := by decide +kernel
theorem d_md_bestPlan_4 : decode prog_7_method_24_code 4 = .ok (.iconst 0, 1) := by decide +kernel
theorem d_md_bestPlan_5 : decode prog_7_method_24_code 5 = .ok (.istore 5, 2) := by decide +kernel
theorem d_md_bestPlan_7 : decode prog_7_method_24_code 7 = .ok (.iload 5, 2) := by decide +kernel
theorem d_md_bestPlan_9 : decode prog_7_method_24_code 9 = .ok (.sipush 16384, 3) := by decide +kernel
theorem d_md_bestPlan_12 : decode prog_7_method_24_code 12 = .ok (.if_icmp .ge 42, 3) := by decide +kernel
theorem d_md_bestPlan_15 : decode prog_7_method_24_code 15 = .ok (.aload_n 0, 1) := by decide +kernel
theorem d_md_bestPlan_16 : decode prog_7_method_24_code 16 = .ok (.iload 5, 2) := by decide +kernel
theorem d_md_bestPlan_18 : decode prog_7_method_24_code 18 = .ok (.iload_n 1, 1) := by decide +kernel
theorem d_md_bestPlan_19 : decode prog_7_method_24_code 19 = .ok (.invokevirtual 144, 3) := by decide +kernel
theorem d_md_bestPlan_22 : decode prog_7_method_24_code 22 = .ok (.lstore 6, 2) := by decide +kernel
theorem d_md_bestPlan_24 : decode prog_7_method_24_code 24 = .ok (.lload 6, 2) := by decide +kernel
theorem d_md_bestPlan_26 : decode prog_7_method_24_code 26 = .ok (.lconst 0, 1) := by decide +kernel
theorem d_md_bestPlan_27 : decode prog_7_method_24_code 27 = .ok (.lcmp, 1) := by decide +kernel
theorem d_md_bestPlan_28 : decode prog_7_method_24_code 28 = .ok (.ifCond .lt 20, 3) := by decide +kernel
theorem d_md_bestPlan_31 : decode prog_7_method_24_code 31 = .ok (.iload_n 2, 1) := by decide +kernel
theorem d_md_bestPlan_32 : decode prog_7_method_24_code 32 = .ok (.ifCond .lt 10, 3) := by decide +kernel
theorem d_md_bestPlan_35 : decode prog_7_method_24_code 35 = .ok (.lload 6, 2) := by decide +kernel
theorem d_md_bestPlan_37 : decode prog_7_method_24_code 37 = .ok (.lload_n 3, 1) := by decide +kernel
theorem d_md_bestPlan_38 : decode prog_7_method_24_code 38 = .ok (.lcmp, 1) := by decide +kernel
theorem d_md_bestPlan_39 : decode prog_7_method_24_code 39 = .ok (.ifCond .ge 9, 3) := by decide +kernel
theorem d_md_bestPlan_42 : decode prog_7_method_24_code 42 = .ok (.iload 5, 2) := by decide +kernel
theorem d_md_bestPlan_44 : decode prog_7_method_24_code 44 = .ok (.istore_n 2, 1) := by decide +kernel
theorem d_md_bestPlan_45 : decode prog_7_method_24_code 45 = .ok (.lload 6, 2) := by decide +kernel
theorem d_md_bestPlan_47 : decode prog_7_method_24_code 47 = .ok (.lstore_n 3, 1) := by decide +kernel
theorem d_md_bestPlan_48 : decode prog_7_method_24_code 48 = .ok (.iinc 5 1, 3) := by decide +kernel
theorem d_md_bestPlan_51 : decode prog_7_method_24_code 51 = .ok (.goto (-44), 3) := by decide +kernel
theorem d_md_bestPlan_54 : decode prog_7_method_24_code 54 = .ok (.iload_n 2, 1) := by decide +kernel
theorem d_md_bestPlan_55 : decode prog_7_method_24_code 55 = .ok (.ireturn, 1) := by decide +kernel
theorem d_md_run_0 : decode prog_7_method_25_code 0 = .ok (.iconst 0, 1) := by decide +kernel
theorem d_md_run_1 : decode prog_7_method_25_code 1 = .ok (.istore_n 1, 1) := by decide +kernel
theorem d_md_run_2 : decode prog_7_method_25_code 2 = .ok (.iload_n 1, 1) := by decide +kernel
theorem d_md_run_3 : decode prog_7_method_25_code 3 = .ok (.aload_n 0, 1) := by decide +kernel
theorem d_md_run_4 : decode prog_7_method_25_code 4 = .ok (.getfield 99, 3) := by decide +kernel
theorem d_md_run_7 : decode prog_7_method_25_code 7 = .ok (.if_icmp .ge 14, 3) := by decide +kernel
theorem d_md_run_10 : decode prog_7_method_25_code 10 = .ok (.aload_n 0, 1) := by decide +kernel
theorem d_md_run_11 : decode prog_7_method_25_code 11 = .ok (.iload_n 1, 1) := by decide +kernel
theorem d_md_run_12 : decode prog_7_method_25_code 12 = .ok (.invokevirtual 148, 3) := by decide +kernel
theorem d_md_run_15 : decode prog_7_method_25_code 15 = .ok (.iinc 1 1, 3) := by decide +kernel
theorem d_md_run_18 : decode prog_7_method_25_code 18 = .ok (.goto (-16), 3) := by decide +kernel
theorem d_md_run_21 : decode prog_7_method_25_code 21 = .ok (.aload_n 0, 1) := by decide +kernel
theorem d_md_run_22 : decode prog_7_method_25_code 22 = .ok (.iconst (-1), 1) := by decide +kernel
theorem d_md_run_23 : decode prog_7_method_25_code 23 = .ok (.invokevirtual 152, 3) := by decide +kernel
theorem d_md_run_26 : decode prog_7_method_25_code 26 = .ok (.istore_n 1, 1) := by decide +kernel
theorem d_md_run_27 : decode prog_7_method_25_code 27 = .ok (.aload_n 0, 1) := by decide +kernel
theorem d_md_run_28 : decode prog_7_method_25_code 28 = .ok (.aload_n 0, 1) := by decide +kernel
theorem d_md_run_29 : decode prog_7_method_25_code 29 = .ok (.iload_n 1, 1) := by decide +kernel
theorem d_md_run_30 : decode prog_7_method_25_code 30 = .ok (.iconst (-1), 1) := by decide +kernel
theorem d_md_run_31 : decode prog_7_method_25_code 31 = .ok (.invokevirtual 144, 3) := by decide +kernel
theorem d_md_run_34 : decode prog_7_method_25_code 34 = .ok (.putfield 155, 3) := by decide +kernel
theorem d_md_run_37 : decode prog_7_method_25_code 37 = .ok (.aload_n 0, 1) := by decide +kernel
theorem d_md_run_38 : decode prog_7_method_25_code 38 = .ok (.iconst 1, 1) := by decide +kernel
theorem d_md_run_39 : decode prog_7_method_25_code 39 = .ok (.putfield 159, 3) := by decide +kernel
theorem d_md_run_42 : decode prog_7_method_25_code 42 = .ok (.aload_n 0, 1) := by decide +kernel
theorem d_md_run_43 : decode prog_7_method_25_code 43 = .ok (.aload_n 0, 1) := by decide +kernel
theorem d_md_run_44 : decode prog_7_method_25_code 44 = .ok (.getfield 78, 3) := by decide +kernel
theorem d_md_run_47 : decode prog_7_method_25_code 47 = .ok (.putfield 163, 3) := by decide +kernel
theorem d_md_run_50 : decode prog_7_method_25_code 50 = .ok (.aload_n 0, 1) := by decide +kernel
theorem d_md_run_51 : decode prog_7_method_25_code 51 = .ok (.aload_n 0, 1) := by decide +kernel
theorem d_md_run_52 : decode prog_7_method_25_code 52 = .ok (.getfield 99, 3) := by decide +kernel
theorem d_md_run_55 : decode prog_7_method_25_code 55 = .ok (.putfield 166, 3) := by decide +kernel
theorem d_md_run_58 : decode prog_7_method_25_code 58 = .ok (.iconst 0, 1) := by decide +kernel
theorem d_md_run_59 : decode prog_7_method_25_code 59 = .ok (.istore_n 2, 1) := by decide +kernel
theorem d_md_run_60 : decode prog_7_method_25_code 60 = .ok (.iload_n 2, 1) := by decide +kernel
theorem d_md_run_61 : decode prog_7_method_25_code 61 = .ok (.aload_n 0, 1) := by decide +kernel
theorem d_md_run_62 : decode prog_7_method_25_code 62 = .ok (.getfield 99, 3) := by decide +kernel
theorem d_md_run_65 : decode prog_7_method_25_code 65 = .ok (.if_icmp .ge 30, 3) := by decide +kernel
theorem d_md_run_68 : decode prog_7_method_25_code 68 = .ok (.aload_n 0, 1) := by decide +kernel
theorem d_md_run_69 : decode prog_7_method_25_code 69 = .ok (.getfield 75, 3) := by decide +kernel
theorem d_md_run_72 : decode prog_7_method_25_code 72 = .ok (.iload_n 2, 1) := by decide +kernel
theorem d_md_run_73 : decode prog_7_method_25_code 73 = .ok (.aload_n 0, 1) := by decide +kernel
theorem d_md_run_74 : decode prog_7_method_25_code 74 = .ok (.aload_n 0, 1) := by decide +kernel
theorem d_md_run_75 : decode prog_7_method_25_code 75 = .ok (.iload_n 2, 1) := by decide +kernel
theorem d_md_run_76 : decode prog_7_method_25_code 76 = .ok (.invokevirtual 152, 3) := by decide +kernel
theorem d_md_run_79 : decode prog_7_method_25_code 79 = .ok (.iload_n 2, 1) := by decide +kernel
theorem d_md_run_80 : decode prog_7_method_25_code 80 = .ok (.invokevirtual 144, 3) := by decide +kernel
theorem d_md_run_83 : decode prog_7_method_25_code 83 = .ok (.aload_n 0, 1) := by decide +kernel
theorem d_md_run_84 : decode prog_7_method_25_code 84 = .ok (.getfield 155, 3) := by decide +kernel
theorem d_md_run_87 : decode prog_7_method_25_code 87 = .ok (.lsub, 1) := by decide +kernel
theorem d_md_run_88 : decode prog_7_method_25_code 88 = .ok (.lastore, 1) := by decide +kernel
theorem d_md_run_89 : decode prog_7_method_25_code 89 = .ok (.iinc 2 1, 3) := by decide +kernel
theorem d_md_run_92 : decode prog_7_method_25_code 92 = .ok (.goto (-32), 3) := by decide +kernel
theorem d_md_run_95 : decode prog_7_method_25_code 95 = .ok (.iconst 0, 1) := by decide +kernel
theorem d_md_run_96 : decode prog_7_method_25_code 96 = .ok (.istore_n 2, 1) := by decide +kernel
theorem d_md_run_97 : decode prog_7_method_25_code 97 = .ok (.iconst 0, 1) := by decide +kernel
theorem d_md_run_98 : decode prog_7_method_25_code 98 = .ok (.istore_n 3, 1) := by decide +kernel
theorem d_md_run_99 : decode prog_7_method_25_code 99 = .ok (.iload_n 3, 1) := by decide +kernel
theorem d_md_run_100 : decode prog_7_method_25_code 100 = .ok (.aload_n 0, 1) := by decide +kernel
theorem d_md_run_101 : decode prog_7_method_25_code 101 = .ok (.getfield 78, 3) := by decide +kernel
theorem d_md_run_104 : decode prog_7_method_25_code 104 = .ok (.if_icmp .ge 45, 3) := by decide +kernel
theorem d_md_run_107 : decode prog_7_method_25_code 107 = .ok (.aload_n 0, 1) := by decide +kernel
theorem d_md_run_108 : decode prog_7_method_25_code 108 = .ok (.getfield 60, 3) := by decide +kernel
theorem d_md_run_111 : decode prog_7_method_25_code 111 = .ok (.iload_n 3, 1) := by decide +kernel
theorem d_md_run_112 : decode prog_7_method_25_code 112 = .ok (.iload_n 1, 1) := by decide +kernel
theorem d_md_run_113 : decode prog_7_method_25_code 113 = .ok (.iload_n 3, 1) := by decide +kernel
theorem d_md_run_114 : decode prog_7_method_25_code 114 = .ok (.invokestatic 136, 3) := by decide +kernel
theorem d_md_run_117 : decode prog_7_method_25_code 117 = .ok (.iastore, 1) := by decide +kernel
theorem d_md_run_118 : decode prog_7_method_25_code 118 = .ok (.iload_n 2, 1) := by decide +kernel
theorem d_md_run_119 : decode prog_7_method_25_code 119 = .ok (.aload_n 0, 1) := by decide +kernel
theorem d_md_run_120 : decode prog_7_method_25_code 120 = .ok (.getfield 60, 3) := by decide +kernel
theorem d_md_run_123 : decode prog_7_method_25_code 123 = .ok (.iload_n 3, 1) := by decide +kernel
theorem d_md_run_124 : decode prog_7_method_25_code 124 = .ok (.iaload, 1) := by decide +kernel
theorem d_md_run_125 : decode prog_7_method_25_code 125 = .ok (.iconst 3, 1) := by decide +kernel
theorem d_md_run_126 : decode prog_7_method_25_code 126 = .ok (.if_icmp .ne 7, 3) := by decide +kernel
theorem d_md_run_129 : decode prog_7_method_25_code 129 = .ok (.iconst 1, 1) := by decide +kernel
theorem d_md_run_130 : decode prog_7_method_25_code 130 = .ok (.goto 4, 3) := by decide +kernel
theorem d_md_run_133 : decode prog_7_method_25_code 133 = .ok (.iconst 0, 1) := by decide +kernel
theorem d_md_run_134 : decode prog_7_method_25_code 134 = .ok (.iadd, 1) := by decide +kernel
theorem d_md_run_135 : decode prog_7_method_25_code 135 = .ok (.istore_n 2, 1) := by decide +kernel
theorem d_md_run_136 : decode prog_7_method_25_code 136 = .ok (.aload_n 0, 1) := by decide +kernel
theorem d_md_run_137 : decode prog_7_method_25_code 137 = .ok (.getfield 63, 3) := by decide +kernel
theorem d_md_run_140 : decode prog_7_method_25_code 140 = .ok (.iload_n 3, 1) := by decide +kernel
theorem d_md_run_141 : decode prog_7_method_25_code 141 = .ok (.iconst (-1), 1) := by decide +kernel
theorem d_md_run_142 : decode prog_7_method_25_code 142 = .ok (.iastore, 1) := by decide +kernel
theorem d_md_run_143 : decode prog_7_method_25_code 143 = .ok (.iinc 3 1, 3) := by decide +kernel
theorem d_md_run_146 : decode prog_7_method_25_code 146 = .ok (.goto (-47), 3) := by decide +kernel
theorem d_md_run_149 : decode prog_7_method_25_code 149 = .ok (.iconst 0, 1) := by decide +kernel
theorem d_md_run_150 : decode prog_7_method_25_code 150 = .ok (.istore_n 3, 1) := by decide +kernel
theorem d_md_run_151 : decode prog_7_method_25_code 151 = .ok (.iload_n 3, 1) := by decide +kernel
theorem d_md_run_152 : decode prog_7_method_25_code 152 = .ok (.aload_n 0, 1) := by decide +kernel
theorem d_md_run_153 : decode prog_7_method_25_code 153 = .ok (.getfield 99, 3) := by decide +kernel
theorem d_md_run_156 : decode prog_7_method_25_code 156 = .ok (.if_icmp .ge 20, 3) := by decide +kernel
theorem d_md_run_159 : decode prog_7_method_25_code 159 = .ok (.aload_n 0, 1) := by decide +kernel
theorem d_md_run_160 : decode prog_7_method_25_code 160 = .ok (.iload_n 3, 1) := by decide +kernel
theorem d_md_run_161 : decode prog_7_method_25_code 161 = .ok (.aload_n 0, 1) := by decide +kernel
theorem d_md_run_162 : decode prog_7_method_25_code 162 = .ok (.iload_n 1, 1) := by decide +kernel
theorem d_md_run_163 : decode prog_7_method_25_code 163 = .ok (.iload_n 3, 1) := by decide +kernel
theorem d_md_run_164 : decode prog_7_method_25_code 164 = .ok (.invokevirtual 141, 3) := by decide +kernel
theorem d_md_run_167 : decode prog_7_method_25_code 167 = .ok (.invokevirtual 169, 3) := by decide +kernel
theorem d_md_run_170 : decode prog_7_method_25_code 170 = .ok (.iinc 3 1, 3) := by decide +kernel
theorem d_md_run_173 : decode prog_7_method_25_code 173 = .ok (.goto (-22), 3) := by decide +kernel
theorem d_md_run_176 : decode prog_7_method_25_code 176 = .ok (.iconst 0, 1) := by decide +kernel
theorem d_md_run_177 : decode prog_7_method_25_code 177 = .ok (.istore_n 3, 1) := by decide +kernel
theorem d_md_run_178 : decode prog_7_method_25_code 178 = .ok (.iload_n 3, 1) := by decide +kernel
theorem d_md_run_179 : decode prog_7_method_25_code 179 = .ok (.aload_n 0, 1) := by decide +kernel
theorem d_md_run_180 : decode prog_7_method_25_code 180 = .ok (.getfield 78, 3) := by decide +kernel
theorem d_md_run_183 : decode prog_7_method_25_code 183 = .ok (.if_icmp .ge 35, 3) := by decide +kernel
theorem d_md_run_186 : decode prog_7_method_25_code 186 = .ok (.aload_n 0, 1) := by decide +kernel
theorem d_md_run_187 : decode prog_7_method_25_code 187 = .ok (.getfield 63, 3) := by decide +kernel
theorem d_md_run_190 : decode prog_7_method_25_code 190 = .ok (.iload_n 3, 1) := by decide +kernel
theorem d_md_run_191 : decode prog_7_method_25_code 191 = .ok (.aload_n 0, 1) := by decide +kernel
theorem d_md_run_192 : decode prog_7_method_25_code 192 = .ok (.getfield 60, 3) := by decide +kernel
theorem d_md_run_195 : decode prog_7_method_25_code 195 = .ok (.iload_n 3, 1) := by decide +kernel
theorem d_md_run_196 : decode prog_7_method_25_code 196 = .ok (.iaload, 1) := by decide +kernel
theorem d_md_run_197 : decode prog_7_method_25_code 197 = .ok (.iconst 3, 1) := by decide +kernel
theorem d_md_run_198 : decode prog_7_method_25_code 198 = .ok (.if_icmp .ne 7, 3) := by decide +kernel
theorem d_md_run_201 : decode prog_7_method_25_code 201 = .ok (.iconst (-1), 1) := by decide +kernel
theorem d_md_run_202 : decode prog_7_method_25_code 202 = .ok (.goto 9, 3) := by decide +kernel
theorem d_md_run_205 : decode prog_7_method_25_code 205 = .ok (.aload_n 0, 1) := by decide +kernel
theorem d_md_run_206 : decode prog_7_method_25_code 206 = .ok (.getfield 63, 3) := by decide +kernel
theorem d_md_run_209 : decode prog_7_method_25_code 209 = .ok (.iload_n 3, 1) := by decide +kernel
theorem d_md_run_210 : decode prog_7_method_25_code 210 = .ok (.iaload, 1) := by decide +kernel
theorem d_md_run_211 : decode prog_7_method_25_code 211 = .ok (.iastore, 1) := by decide +kernel
theorem d_md_run_212 : decode prog_7_method_25_code 212 = .ok (.iinc 3 1, 3) := by decide +kernel
theorem d_md_run_215 : decode prog_7_method_25_code 215 = .ok (.goto (-37), 3) := by decide +kernel
theorem d_md_run_218 : decode prog_7_method_25_code 218 = .ok (.iload_n 2, 1) := by decide +kernel
theorem d_md_run_219 : decode prog_7_method_25_code 219 = .ok (.ireturn, 1) := by decide +kernel
theorem d_md_tellRound_0 : decode prog_7_method_26_code 0 = .ok (.aload_n 0, 1) := by decide +kernel
theorem d_md_tellRound_1 : decode prog_7_method_26_code 1 = .ok (.getfield 69, 3) := by decide +kernel
theorem d_md_tellRound_4 : decode prog_7_method_26_code 4 = .ok (.iload_n 1, 1) := by decide +kernel
theorem d_md_tellRound_5 : decode prog_7_method_26_code 5 = .ok (.iconst 0, 1) := by decide +kernel
theorem d_md_tellRound_6 : decode prog_7_method_26_code 6 = .ok (.iastore, 1) := by decide +kernel
theorem d_md_tellRound_7 : decode prog_7_method_26_code 7 = .ok (.iconst 0, 1) := by decide +kernel
theorem d_md_tellRound_8 : decode prog_7_method_26_code 8 = .ok (.istore_n 3, 1) := by decide +kernel
theorem d_md_tellRound_9 : decode prog_7_method_26_code 9 = .ok (.iload_n 3, 1) := by decide +kernel
theorem d_md_tellRound_10 : decode prog_7_method_26_code 10 = .ok (.aload_n 0, 1) := by decide +kernel
theorem d_md_tellRound_11 : decode prog_7_method_26_code 11 = .ok (.getfield 78, 3) := by decide +kernel
theorem d_md_tellRound_14 : decode prog_7_method_26_code 14 = .ok (.if_icmp .ge 23, 3) := by decide +kernel
theorem d_md_tellRound_17 : decode prog_7_method_26_code 17 = .ok (.aload_n 0, 1) := by decide +kernel
theorem d_md_tellRound_18 : decode prog_7_method_26_code 18 = .ok (.getfield 69, 3) := by decide +kernel
theorem d_md_tellRound_21 : decode prog_7_method_26_code 21 = .ok (.iload_n 1, 1) := by decide +kernel
theorem d_md_tellRound_22 : decode prog_7_method_26_code 22 = .ok (.dup2, 1) := by decide +kernel
theorem d_md_tellRound_23 : decode prog_7_method_26_code 23 = .ok (.iaload, 1) := by decide +kernel
theorem d_md_tellRound_24 : decode prog_7_method_26_code 24 = .ok (.iload_n 2, 1) := by decide +kernel
theorem d_md_tellRound_25 : decode prog_7_method_26_code 25 = .ok (.iload_n 3, 1) := by decide +kernel
theorem d_md_tellRound_26 : decode prog_7_method_26_code 26 = .ok (.ishr, 1) := by decide +kernel
theorem d_md_tellRound_27 : decode prog_7_method_26_code 27 = .ok (.iconst 1, 1) := by decide +kernel
theorem d_md_tellRound_28 : decode prog_7_method_26_code 28 = .ok (.iand, 1) := by decide +kernel
theorem d_md_tellRound_29 : decode prog_7_method_26_code 29 = .ok (.iadd, 1) := by decide +kernel
theorem d_md_tellRound_30 : decode prog_7_method_26_code 30 = .ok (.iastore, 1) := by decide +kernel
theorem d_md_tellRound_31 : decode prog_7_method_26_code 31 = .ok (.iinc 3 1, 3) := by decide +kernel
theorem d_md_tellRound_34 : decode prog_7_method_26_code 34 = .ok (.goto (-25), 3) := by decide +kernel
theorem d_md_tellRound_37 : decode prog_7_method_26_code 37 = .ok (.aload_n 0, 1) := by decide +kernel
theorem d_md_tellRound_38 : decode prog_7_method_26_code 38 = .ok (.getfield 72, 3) := by decide +kernel
theorem d_md_tellRound_41 : decode prog_7_method_26_code 41 = .ok (.iload_n 1, 1) := by decide +kernel
theorem d_md_tellRound_42 : decode prog_7_method_26_code 42 = .ok (.iconst (-1), 1) := by decide +kernel
theorem d_md_tellRound_43 : decode prog_7_method_26_code 43 = .ok (.iastore, 1) := by decide +kernel
theorem d_md_tellRound_44 : decode prog_7_method_26_code 44 = .ok (.iload_n 2, 1) := by decide +kernel
theorem d_md_tellRound_45 : decode prog_7_method_26_code 45 = .ok (.ifCond .eq 75, 3) := by decide +kernel
theorem d_md_tellRound_48 : decode prog_7_method_26_code 48 = .ok (.aload_n 0, 1) := by decide +kernel
theorem d_md_tellRound_49 : decode prog_7_method_26_code 49 = .ok (.getfield 66, 3) := by decide +kernel
theorem d_md_tellRound_52 : decode prog_7_method_26_code 52 = .ok (.iload_n 1, 1) := by decide +kernel
theorem d_md_tellRound_53 : decode prog_7_method_26_code 53 = .ok (.aload_n 0, 1) := by decide +kernel
theorem d_md_tellRound_54 : decode prog_7_method_26_code 54 = .ok (.getfield 54, 3) := by decide +kernel
theorem d_md_tellRound_57 : decode prog_7_method_26_code 57 = .ok (.sipush 128, 3) := by decide +kernel
theorem d_md_tellRound_60 : decode prog_7_method_26_code 60 = .ok (.iload_n 1, 1) := by decide +kernel
theorem d_md_tellRound_61 : decode prog_7_method_26_code 61 = .ok (.imul, 1) := by decide +kernel
theorem d_md_tellRound_62 : decode prog_7_method_26_code 62 = .ok (.iload_n 2, 1) := by decide +kernel
theorem d_md_tellRound_63 : decode prog_7_method_26_code 63 = .ok (.iadd, 1) := by decide +kernel
theorem d_md_tellRound_64 : decode prog_7_method_26_code 64 = .ok (.iaload, 1) := by decide +kernel
theorem d_md_tellRound_65 : decode prog_7_method_26_code 65 = .ok (.iastore, 1) := by decide +kernel
theorem d_md_tellRound_66 : decode prog_7_method_26_code 66 = .ok (.iconst 0, 1) := by decide +kernel
theorem d_md_tellRound_67 : decode prog_7_method_26_code 67 = .ok (.istore_n 3, 1) := by decide +kernel
theorem d_md_tellRound_68 : decode prog_7_method_26_code 68 = .ok (.iload_n 3, 1) := by decide +kernel
theorem d_md_tellRound_69 : decode prog_7_method_26_code 69 = .ok (.aload_n 0, 1) := by decide +kernel
theorem d_md_tellRound_70 : decode prog_7_method_26_code 70 = .ok (.getfield 69, 3) := by decide +kernel
theorem d_md_tellRound_73 : decode prog_7_method_26_code 73 = .ok (.iload_n 1, 1) := by decide +kernel
theorem d_md_tellRound_74 : decode prog_7_method_26_code 74 = .ok (.iaload, 1) := by decide +kernel
theorem d_md_tellRound_75 : decode prog_7_method_26_code 75 = .ok (.if_icmp .ge 28, 3) := by decide +kernel
theorem d_md_tellRound_78 : decode prog_7_method_26_code 78 = .ok (.aload_n 0, 1) := by decide +kernel
theorem d_md_tellRound_79 : decode prog_7_method_26_code 79 = .ok (.getfield 57, 3) := by decide +kernel
theorem d_md_tellRound_82 : decode prog_7_method_26_code 82 = .ok (.iload_n 3, 1) := by decide +kernel
theorem d_md_tellRound_83 : decode prog_7_method_26_code 83 = .ok (.aload_n 0, 1) := by decide +kernel
theorem d_md_tellRound_84 : decode prog_7_method_26_code 84 = .ok (.getfield 66, 3) := by decide +kernel
theorem d_md_tellRound_87 : decode prog_7_method_26_code 87 = .ok (.iload_n 1, 1) := by decide +kernel
theorem d_md_tellRound_88 : decode prog_7_method_26_code 88 = .ok (.iaload, 1) := by decide +kernel
theorem d_md_tellRound_89 : decode prog_7_method_26_code 89 = .ok (.iconst 3, 1) := by decide +kernel
theorem d_md_tellRound_90 : decode prog_7_method_26_code 90 = .ok (.iload_n 3, 1) := by decide +kernel
theorem d_md_tellRound_91 : decode prog_7_method_26_code 91 = .ok (.imul, 1) := by decide +kernel
theorem d_md_tellRound_92 : decode prog_7_method_26_code 92 = .ok (.ishr, 1) := by decide +kernel
theorem d_md_tellRound_93 : decode prog_7_method_26_code 93 = .ok (.bipush 7, 2) := by decide +kernel
theorem d_md_tellRound_95 : decode prog_7_method_26_code 95 = .ok (.iand, 1) := by decide +kernel
theorem d_md_tellRound_96 : decode prog_7_method_26_code 96 = .ok (.iastore, 1) := by decide +kernel
theorem d_md_tellRound_97 : decode prog_7_method_26_code 97 = .ok (.iinc 3 1, 3) := by decide +kernel
theorem d_md_tellRound_100 : decode prog_7_method_26_code 100 = .ok (.goto (-32), 3) := by decide +kernel
theorem d_md_tellRound_103 : decode prog_7_method_26_code 103 = .ok (.aload_n 0, 1) := by decide +kernel
theorem d_md_tellRound_104 : decode prog_7_method_26_code 104 = .ok (.getfield 72, 3) := by decide +kernel
theorem d_md_tellRound_107 : decode prog_7_method_26_code 107 = .ok (.iload_n 1, 1) := by decide +kernel
theorem d_md_tellRound_108 : decode prog_7_method_26_code 108 = .ok (.aload_n 0, 1) := by decide +kernel
theorem d_md_tellRound_109 : decode prog_7_method_26_code 109 = .ok (.iload_n 1, 1) := by decide +kernel
theorem d_md_tellRound_110 : decode prog_7_method_26_code 110 = .ok (.aload_n 0, 1) := by decide +kernel
theorem d_md_tellRound_111 : decode prog_7_method_26_code 111 = .ok (.getfield 69, 3) := by decide +kernel
theorem d_md_tellRound_114 : decode prog_7_method_26_code 114 = .ok (.iload_n 1, 1) := by decide +kernel
theorem d_md_tellRound_115 : decode prog_7_method_26_code 115 = .ok (.iaload, 1) := by decide +kernel
theorem d_md_tellRound_116 : decode prog_7_method_26_code 116 = .ok (.invokevirtual 125, 3) := by decide +kernel
theorem d_md_tellRound_119 : decode prog_7_method_26_code 119 = .ok (.iastore, 1) := by decide +kernel
theorem d_md_tellRound_120 : decode prog_7_method_26_code 120 = .ok (.return_, 1) := by decide +kernel
theorem d_md_cost_0 : decode prog_7_method_27_code 0 = .ok (.aload_n 0, 1) := by decide +kernel
theorem d_md_cost_1 : decode prog_7_method_27_code 1 = .ok (.getfield 159, 3) := by decide +kernel
theorem d_md_cost_4 : decode prog_7_method_27_code 4 = .ok (.ifCond .eq 10, 3) := by decide +kernel
theorem d_md_cost_7 : decode prog_7_method_27_code 7 = .ok (.aload_n 0, 1) := by decide +kernel
theorem d_md_cost_8 : decode prog_7_method_27_code 8 = .ok (.getfield 155, 3) := by decide +kernel
theorem d_md_cost_11 : decode prog_7_method_27_code 11 = .ok (.goto 6, 3) := by decide +kernel
theorem d_md_cost_14 : decode prog_7_method_27_code 14 = .ok (.ldc2_w 139, 3) := by decide +kernel
theorem d_md_cost_17 : decode prog_7_method_27_code 17 = .ok (.lreturn, 1) := by decide +kernel
theorem d_md_vehicleOf_0 : decode prog_7_method_28_code 0 = .ok (.iload_n 1, 1) := by decide +kernel
theorem d_md_vehicleOf_1 : decode prog_7_method_28_code 1 = .ok (.ifCond .lt 20, 3) := by decide +kernel
theorem d_md_vehicleOf_4 : decode prog_7_method_28_code 4 = .ok (.iload_n 1, 1) := by decide +kernel
theorem d_md_vehicleOf_5 : decode prog_7_method_28_code 5 = .ok (.aload_n 0, 1) := by decide +kernel
theorem d_md_vehicleOf_6 : decode prog_7_method_28_code 6 = .ok (.getfield 163, 3) := by decide +kernel
theorem d_md_vehicleOf_9 : decode prog_7_method_28_code 9 = .ok (.if_icmp .ge 12, 3) := by decide +kernel
theorem d_md_vehicleOf_12 : decode prog_7_method_28_code 12 = .ok (.aload_n 0, 1) := by decide +kernel
theorem d_md_vehicleOf_13 : decode prog_7_method_28_code 13 = .ok (.getfield 60, 3) := by decide +kernel
theorem d_md_vehicleOf_16 : decode prog_7_method_28_code 16 = .ok (.iload_n 1, 1) := by decide +kernel
theorem d_md_vehicleOf_17 : decode prog_7_method_28_code 17 = .ok (.iaload, 1) := by decide +kernel
theorem d_md_vehicleOf_18 : decode prog_7_method_28_code 18 = .ok (.goto 4, 3) := by decide +kernel
theorem d_md_vehicleOf_21 : decode prog_7_method_28_code 21 = .ok (.iconst (-1), 1) := by decide +kernel
theorem d_md_vehicleOf_22 : decode prog_7_method_28_code 22 = .ok (.ireturn, 1) := by decide +kernel
theorem d_md_at_0 : decode prog_7_method_29_code 0 = .ok (.iload_n 1, 1) := by decide +kernel
theorem d_md_at_1 : decode prog_7_method_29_code 1 = .ok (.ifCond .lt 41, 3) := by decide +kernel
theorem d_md_at_4 : decode prog_7_method_29_code 4 = .ok (.iload_n 1, 1) := by decide +kernel
theorem d_md_at_5 : decode prog_7_method_29_code 5 = .ok (.aload_n 0, 1) := by decide +kernel
theorem d_md_at_6 : decode prog_7_method_29_code 6 = .ok (.getfield 166, 3) := by decide +kernel
theorem d_md_at_9 : decode prog_7_method_29_code 9 = .ok (.if_icmp .ge 33, 3) := by decide +kernel
theorem d_md_at_12 : decode prog_7_method_29_code 12 = .ok (.iload_n 2, 1) := by decide +kernel
theorem d_md_at_13 : decode prog_7_method_29_code 13 = .ok (.ifCond .lt 29, 3) := by decide +kernel
theorem d_md_at_16 : decode prog_7_method_29_code 16 = .ok (.iload_n 2, 1) := by decide +kernel
theorem d_md_at_17 : decode prog_7_method_29_code 17 = .ok (.aload_n 0, 1) := by decide +kernel
theorem d_md_at_18 : decode prog_7_method_29_code 18 = .ok (.getfield 69, 3) := by decide +kernel
theorem d_md_at_21 : decode prog_7_method_29_code 21 = .ok (.iload_n 1, 1) := by decide +kernel
theorem d_md_at_22 : decode prog_7_method_29_code 22 = .ok (.iaload, 1) := by decide +kernel
theorem d_md_at_23 : decode prog_7_method_29_code 23 = .ok (.if_icmp .ge 19, 3) := by decide +kernel
theorem d_md_at_26 : decode prog_7_method_29_code 26 = .ok (.aload_n 0, 1) := by decide +kernel
theorem d_md_at_27 : decode prog_7_method_29_code 27 = .ok (.getfield 66, 3) := by decide +kernel
theorem d_md_at_30 : decode prog_7_method_29_code 30 = .ok (.iload_n 1, 1) := by decide +kernel
theorem d_md_at_31 : decode prog_7_method_29_code 31 = .ok (.iaload, 1) := by decide +kernel
theorem d_md_at_32 : decode prog_7_method_29_code 32 = .ok (.iconst 3, 1) := by decide +kernel
theorem d_md_at_33 : decode prog_7_method_29_code 33 = .ok (.iload_n 2, 1) := by decide +kernel
theorem d_md_at_34 : decode prog_7_method_29_code 34 = .ok (.imul, 1) := by decide +kernel
theorem d_md_at_35 : decode prog_7_method_29_code 35 = .ok (.ishr, 1) := by decide +kernel
theorem d_md_at_36 : decode prog_7_method_29_code 36 = .ok (.bipush 7, 2) := by decide +kernel
theorem d_md_at_38 : decode prog_7_method_29_code 38 = .ok (.iand, 1) := by decide +kernel
theorem d_md_at_39 : decode prog_7_method_29_code 39 = .ok (.goto 4, 3) := by decide +kernel
theorem d_md_at_42 : decode prog_7_method_29_code 42 = .ok (.iconst (-1), 1) := by decide +kernel
theorem d_md_at_43 : decode prog_7_method_29_code 43 = .ok (.ireturn, 1) := by decide +kernel
theorem d_md_begun_0 : decode prog_7_method_30_code 0 = .ok (.iload_n 1, 1) := by decide +kernel
theorem d_md_begun_1 : decode prog_7_method_30_code 1 = .ok (.ifCond .lt 20, 3) := by decide +kernel
theorem d_md_begun_4 : decode prog_7_method_30_code 4 = .ok (.iload_n 1, 1) := by decide +kernel
