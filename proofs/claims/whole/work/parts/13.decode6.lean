theorem d_rd_findLatestAt_41 : decode prog_4_method_10_code 41 = .ok (.goto 4, 3) := by decide +kernel
theorem d_rd_findLatestAt_44 : decode prog_4_method_10_code 44 = .ok (.iconst (-1), 1) := by decide +kernel
theorem d_rd_findLatestAt_45 : decode prog_4_method_10_code 45 = .ok (.istore 5, 2) := by decide +kernel
theorem d_rd_findLatestAt_47 : decode prog_4_method_10_code 47 = .ok (.iconst 0, 1) := by decide +kernel
theorem d_rd_findLatestAt_48 : decode prog_4_method_10_code 48 = .ok (.istore 6, 2) := by decide +kernel
theorem d_rd_findLatestAt_50 : decode prog_4_method_10_code 50 = .ok (.iload 6, 2) := by decide +kernel
theorem d_rd_findLatestAt_52 : decode prog_4_method_10_code 52 = .ok (.aload_n 0, 1) := by decide +kernel
theorem d_rd_findLatestAt_53 : decode prog_4_method_10_code 53 = .ok (.getfield 9, 3) := by decide +kernel
theorem d_rd_findLatestAt_56 : decode prog_4_method_10_code 56 = .ok (.getfield 31, 3) := by decide +kernel
theorem d_rd_findLatestAt_59 : decode prog_4_method_10_code 59 = .ok (.if_icmp .ge 54, 3) := by decide +kernel
theorem d_rd_findLatestAt_62 : decode prog_4_method_10_code 62 = .ok (.iload 4, 2) := by decide +kernel
theorem d_rd_findLatestAt_64 : decode prog_4_method_10_code 64 = .ok (.iload 6, 2) := by decide +kernel
theorem d_rd_findLatestAt_66 : decode prog_4_method_10_code 66 = .ok (.invokestatic 43, 3) := by decide +kernel
theorem d_rd_findLatestAt_69 : decode prog_4_method_10_code 69 = .ok (.ifCond .eq 38, 3) := by decide +kernel
theorem d_rd_findLatestAt_72 : decode prog_4_method_10_code 72 = .ok (.aload_n 0, 1) := by decide +kernel
theorem d_rd_findLatestAt_73 : decode prog_4_method_10_code 73 = .ok (.getfield 22, 3) := by decide +kernel
theorem d_rd_findLatestAt_76 : decode prog_4_method_10_code 76 = .ok (.iload 4, 2) := by decide +kernel
theorem d_rd_findLatestAt_78 : decode prog_4_method_10_code 78 = .ok (.bipush 7, 2) := by decide +kernel
theorem d_rd_findLatestAt_80 : decode prog_4_method_10_code 80 = .ok (.imul, 1) := by decide +kernel
theorem d_rd_findLatestAt_81 : decode prog_4_method_10_code 81 = .ok (.iload 6, 2) := by decide +kernel
theorem d_rd_findLatestAt_83 : decode prog_4_method_10_code 83 = .ok (.iadd, 1) := by decide +kernel
theorem d_rd_findLatestAt_84 : decode prog_4_method_10_code 84 = .ok (.iaload, 1) := by decide +kernel
theorem d_rd_findLatestAt_85 : decode prog_4_method_10_code 85 = .ok (.aload_n 0, 1) := by decide +kernel
theorem d_rd_findLatestAt_86 : decode prog_4_method_10_code 86 = .ok (.getfield 9, 3) := by decide +kernel
theorem d_rd_findLatestAt_89 : decode prog_4_method_10_code 89 = .ok (.iload_n 2, 1) := by decide +kernel
theorem d_rd_findLatestAt_90 : decode prog_4_method_10_code 90 = .ok (.iload 6, 2) := by decide +kernel
theorem d_rd_findLatestAt_92 : decode prog_4_method_10_code 92 = .ok (.invokevirtual 62, 3) := by decide +kernel
theorem d_rd_findLatestAt_95 : decode prog_4_method_10_code 95 = .ok (.isub, 1) := by decide +kernel
theorem d_rd_findLatestAt_96 : decode prog_4_method_10_code 96 = .ok (.istore 7, 2) := by decide +kernel
theorem d_rd_findLatestAt_98 : decode prog_4_method_10_code 98 = .ok (.iload 5, 2) := by decide +kernel
theorem d_rd_findLatestAt_100 : decode prog_4_method_10_code 100 = .ok (.iload 7, 2) := by decide +kernel
theorem d_rd_findLatestAt_102 : decode prog_4_method_10_code 102 = .ok (.invokestatic 88, 3) := by decide +kernel
theorem d_rd_findLatestAt_105 : decode prog_4_method_10_code 105 = .ok (.istore 5, 2) := by decide +kernel
theorem d_rd_findLatestAt_107 : decode prog_4_method_10_code 107 = .ok (.iinc 6 1, 3) := by decide +kernel
theorem d_rd_findLatestAt_110 : decode prog_4_method_10_code 110 = .ok (.goto (-60), 3) := by decide +kernel
theorem d_rd_findLatestAt_113 : decode prog_4_method_10_code 113 = .ok (.iload 5, 2) := by decide +kernel
theorem d_rd_findLatestAt_115 : decode prog_4_method_10_code 115 = .ok (.aload_n 0, 1) := by decide +kernel
theorem d_rd_findLatestAt_116 : decode prog_4_method_10_code 116 = .ok (.getfield 9, 3) := by decide +kernel
theorem d_rd_findLatestAt_119 : decode prog_4_method_10_code 119 = .ok (.getfield 91, 3) := by decide +kernel
theorem d_rd_findLatestAt_122 : decode prog_4_method_10_code 122 = .ok (.iload_n 2, 1) := by decide +kernel
theorem d_rd_findLatestAt_123 : decode prog_4_method_10_code 123 = .ok (.iaload, 1) := by decide +kernel
theorem d_rd_findLatestAt_124 : decode prog_4_method_10_code 124 = .ok (.isub, 1) := by decide +kernel
theorem d_rd_findLatestAt_125 : decode prog_4_method_10_code 125 = .ok (.istore 6, 2) := by decide +kernel
theorem d_rd_findLatestAt_127 : decode prog_4_method_10_code 127 = .ok (.iload 6, 2) := by decide +kernel
theorem d_rd_findLatestAt_129 : decode prog_4_method_10_code 129 = .ok (.aload_n 0, 1) := by decide +kernel
theorem d_rd_findLatestAt_130 : decode prog_4_method_10_code 130 = .ok (.getfield 9, 3) := by decide +kernel
theorem d_rd_findLatestAt_133 : decode prog_4_method_10_code 133 = .ok (.getfield 85, 3) := by decide +kernel
theorem d_rd_findLatestAt_136 : decode prog_4_method_10_code 136 = .ok (.iload_n 2, 1) := by decide +kernel
theorem d_rd_findLatestAt_137 : decode prog_4_method_10_code 137 = .ok (.iaload, 1) := by decide +kernel
theorem d_rd_findLatestAt_138 : decode prog_4_method_10_code 138 = .ok (.if_icmp .ge 7, 3) := by decide +kernel
theorem d_rd_findLatestAt_141 : decode prog_4_method_10_code 141 = .ok (.iconst (-1), 1) := by decide +kernel
theorem d_rd_findLatestAt_142 : decode prog_4_method_10_code 142 = .ok (.goto 17, 3) := by decide +kernel
theorem d_rd_findLatestAt_145 : decode prog_4_method_10_code 145 = .ok (.iload 6, 2) := by decide +kernel
theorem d_rd_findLatestAt_147 : decode prog_4_method_10_code 147 = .ok (.aload_n 0, 1) := by decide +kernel
theorem d_rd_findLatestAt_148 : decode prog_4_method_10_code 148 = .ok (.getfield 9, 3) := by decide +kernel
theorem d_rd_findLatestAt_151 : decode prog_4_method_10_code 151 = .ok (.getfield 82, 3) := by decide +kernel
theorem d_rd_findLatestAt_154 : decode prog_4_method_10_code 154 = .ok (.iload_n 2, 1) := by decide +kernel
theorem d_rd_findLatestAt_155 : decode prog_4_method_10_code 155 = .ok (.iaload, 1) := by decide +kernel
theorem d_rd_findLatestAt_156 : decode prog_4_method_10_code 156 = .ok (.invokestatic 65, 3) := by decide +kernel
theorem d_rd_findLatestAt_159 : decode prog_4_method_10_code 159 = .ok (.ireturn, 1) := by decide +kernel
theorem d_td_init_0 : decode prog_5_method_1_code 0 = .ok (.aload_n 0, 1) := by decide +kernel
theorem d_td_init_1 : decode prog_5_method_1_code 1 = .ok (.invokespecial 3, 3) := by decide +kernel
theorem d_td_init_4 : decode prog_5_method_1_code 4 = .ok (.aload_n 0, 1) := by decide +kernel
theorem d_td_init_5 : decode prog_5_method_1_code 5 = .ok (.bipush 7, 2) := by decide +kernel
theorem d_td_init_7 : decode prog_5_method_1_code 7 = .ok (.newarray .int, 2) := by decide +kernel
theorem d_td_init_9 : decode prog_5_method_1_code 9 = .ok (.putfield 9, 3) := by decide +kernel
theorem d_td_init_12 : decode prog_5_method_1_code 12 = .ok (.aload_n 0, 1) := by decide +kernel
theorem d_td_init_13 : decode prog_5_method_1_code 13 = .ok (.bipush 7, 2) := by decide +kernel
theorem d_td_init_15 : decode prog_5_method_1_code 15 = .ok (.newarray .int, 2) := by decide +kernel
theorem d_td_init_17 : decode prog_5_method_1_code 17 = .ok (.putfield 15, 3) := by decide +kernel
theorem d_td_init_20 : decode prog_5_method_1_code 20 = .ok (.aload_n 0, 1) := by decide +kernel
theorem d_td_init_21 : decode prog_5_method_1_code 21 = .ok (.bipush 7, 2) := by decide +kernel
theorem d_td_init_23 : decode prog_5_method_1_code 23 = .ok (.newarray .int, 2) := by decide +kernel
theorem d_td_init_25 : decode prog_5_method_1_code 25 = .ok (.putfield 18, 3) := by decide +kernel
theorem d_td_init_28 : decode prog_5_method_1_code 28 = .ok (.aload_n 0, 1) := by decide +kernel
theorem d_td_init_29 : decode prog_5_method_1_code 29 = .ok (.bipush 7, 2) := by decide +kernel
theorem d_td_init_31 : decode prog_5_method_1_code 31 = .ok (.newarray .int, 2) := by decide +kernel
theorem d_td_init_33 : decode prog_5_method_1_code 33 = .ok (.putfield 21, 3) := by decide +kernel
theorem d_td_init_36 : decode prog_5_method_1_code 36 = .ok (.aload_n 0, 1) := by decide +kernel
theorem d_td_init_37 : decode prog_5_method_1_code 37 = .ok (.bipush 7, 2) := by decide +kernel
theorem d_td_init_39 : decode prog_5_method_1_code 39 = .ok (.newarray .long, 2) := by decide +kernel
theorem d_td_init_41 : decode prog_5_method_1_code 41 = .ok (.putfield 24, 3) := by decide +kernel
theorem d_td_init_44 : decode prog_5_method_1_code 44 = .ok (.aload_n 0, 1) := by decide +kernel
theorem d_td_init_45 : decode prog_5_method_1_code 45 = .ok (.bipush 7, 2) := by decide +kernel
theorem d_td_init_47 : decode prog_5_method_1_code 47 = .ok (.newarray .int, 2) := by decide +kernel
theorem d_td_init_49 : decode prog_5_method_1_code 49 = .ok (.putfield 28, 3) := by decide +kernel
theorem d_td_init_52 : decode prog_5_method_1_code 52 = .ok (.aload_n 0, 1) := by decide +kernel
theorem d_td_init_53 : decode prog_5_method_1_code 53 = .ok (.bipush 7, 2) := by decide +kernel
theorem d_td_init_55 : decode prog_5_method_1_code 55 = .ok (.newarray .int, 2) := by decide +kernel
theorem d_td_init_57 : decode prog_5_method_1_code 57 = .ok (.putfield 31, 3) := by decide +kernel
theorem d_td_init_60 : decode prog_5_method_1_code 60 = .ok (.aload_n 0, 1) := by decide +kernel
theorem d_td_init_61 : decode prog_5_method_1_code 61 = .ok (.bipush 7, 2) := by decide +kernel
theorem d_td_init_63 : decode prog_5_method_1_code 63 = .ok (.newarray .int, 2) := by decide +kernel
theorem d_td_init_65 : decode prog_5_method_1_code 65 = .ok (.putfield 34, 3) := by decide +kernel
theorem d_td_init_68 : decode prog_5_method_1_code 68 = .ok (.aload_n 0, 1) := by decide +kernel
theorem d_td_init_69 : decode prog_5_method_1_code 69 = .ok (.bipush 7, 2) := by decide +kernel
theorem d_td_init_71 : decode prog_5_method_1_code 71 = .ok (.newarray .int, 2) := by decide +kernel
theorem d_td_init_73 : decode prog_5_method_1_code 73 = .ok (.putfield 37, 3) := by decide +kernel
theorem d_td_init_76 : decode prog_5_method_1_code 76 = .ok (.aload_n 0, 1) := by decide +kernel
theorem d_td_init_77 : decode prog_5_method_1_code 77 = .ok (.bipush 7, 2) := by decide +kernel
theorem d_td_init_79 : decode prog_5_method_1_code 79 = .ok (.newarray .int, 2) := by decide +kernel
theorem d_td_init_81 : decode prog_5_method_1_code 81 = .ok (.putfield 40, 3) := by decide +kernel
theorem d_td_init_84 : decode prog_5_method_1_code 84 = .ok (.aload_n 0, 1) := by decide +kernel
theorem d_td_init_85 : decode prog_5_method_1_code 85 = .ok (.iconst 3, 1) := by decide +kernel
theorem d_td_init_86 : decode prog_5_method_1_code 86 = .ok (.newarray .int, 2) := by decide +kernel
theorem d_td_init_88 : decode prog_5_method_1_code 88 = .ok (.putfield 43, 3) := by decide +kernel
theorem d_td_init_91 : decode prog_5_method_1_code 91 = .ok (.aload_n 0, 1) := by decide +kernel
theorem d_td_init_92 : decode prog_5_method_1_code 92 = .ok (.iconst 3, 1) := by decide +kernel
theorem d_td_init_93 : decode prog_5_method_1_code 93 = .ok (.newarray .int, 2) := by decide +kernel
theorem d_td_init_95 : decode prog_5_method_1_code 95 = .ok (.putfield 46, 3) := by decide +kernel
theorem d_td_init_98 : decode prog_5_method_1_code 98 = .ok (.aload_n 0, 1) := by decide +kernel
theorem d_td_init_99 : decode prog_5_method_1_code 99 = .ok (.iconst 3, 1) := by decide +kernel
theorem d_td_init_100 : decode prog_5_method_1_code 100 = .ok (.newarray .int, 2) := by decide +kernel
theorem d_td_init_102 : decode prog_5_method_1_code 102 = .ok (.putfield 49, 3) := by decide +kernel
theorem d_td_init_105 : decode prog_5_method_1_code 105 = .ok (.aload_n 0, 1) := by decide +kernel
theorem d_td_init_106 : decode prog_5_method_1_code 106 = .ok (.iconst 3, 1) := by decide +kernel
theorem d_td_init_107 : decode prog_5_method_1_code 107 = .ok (.newarray .int, 2) := by decide +kernel
theorem d_td_init_109 : decode prog_5_method_1_code 109 = .ok (.putfield 52, 3) := by decide +kernel
theorem d_td_init_112 : decode prog_5_method_1_code 112 = .ok (.aload_n 0, 1) := by decide +kernel
theorem d_td_init_113 : decode prog_5_method_1_code 113 = .ok (.bipush 64, 2) := by decide +kernel
theorem d_td_init_115 : decode prog_5_method_1_code 115 = .ok (.newarray .int, 2) := by decide +kernel
theorem d_td_init_117 : decode prog_5_method_1_code 117 = .ok (.putfield 55, 3) := by decide +kernel
theorem d_td_init_120 : decode prog_5_method_1_code 120 = .ok (.aload_n 0, 1) := by decide +kernel
theorem d_td_init_121 : decode prog_5_method_1_code 121 = .ok (.getfield 18, 3) := by decide +kernel
theorem d_td_init_124 : decode prog_5_method_1_code 124 = .ok (.ldc 58, 2) := by decide +kernel
theorem d_td_init_126 : decode prog_5_method_1_code 126 = .ok (.invokestatic 59, 3) := by decide +kernel
theorem d_td_init_129 : decode prog_5_method_1_code 129 = .ok (.aload_n 0, 1) := by decide +kernel
theorem d_td_init_130 : decode prog_5_method_1_code 130 = .ok (.getfield 28, 3) := by decide +kernel
theorem d_td_init_133 : decode prog_5_method_1_code 133 = .ok (.iconst (-1), 1) := by decide +kernel
theorem d_td_init_134 : decode prog_5_method_1_code 134 = .ok (.invokestatic 59, 3) := by decide +kernel
theorem d_td_init_137 : decode prog_5_method_1_code 137 = .ok (.aload_n 0, 1) := by decide +kernel
theorem d_td_init_138 : decode prog_5_method_1_code 138 = .ok (.getfield 55, 3) := by decide +kernel
theorem d_td_init_141 : decode prog_5_method_1_code 141 = .ok (.bipush 100, 2) := by decide +kernel
theorem d_td_init_143 : decode prog_5_method_1_code 143 = .ok (.invokestatic 59, 3) := by decide +kernel
theorem d_td_init_146 : decode prog_5_method_1_code 146 = .ok (.return_, 1) := by decide +kernel
theorem d_td_hasStop_0 : decode prog_5_method_2_code 0 = .ok (.iload_n 1, 1) := by decide +kernel
theorem d_td_hasStop_1 : decode prog_5_method_2_code 1 = .ok (.ifCond .lt 15, 3) := by decide +kernel
theorem d_td_hasStop_4 : decode prog_5_method_2_code 4 = .ok (.iload_n 1, 1) := by decide +kernel
theorem d_td_hasStop_5 : decode prog_5_method_2_code 5 = .ok (.aload_n 0, 1) := by decide +kernel
theorem d_td_hasStop_6 : decode prog_5_method_2_code 6 = .ok (.getfield 65, 3) := by decide +kernel
theorem d_td_hasStop_9 : decode prog_5_method_2_code 9 = .ok (.if_icmp .ge 7, 3) := by decide +kernel
theorem d_td_hasStop_12 : decode prog_5_method_2_code 12 = .ok (.iconst 1, 1) := by decide +kernel
theorem d_td_hasStop_13 : decode prog_5_method_2_code 13 = .ok (.goto 4, 3) := by decide +kernel
theorem d_td_hasStop_16 : decode prog_5_method_2_code 16 = .ok (.iconst 0, 1) := by decide +kernel
theorem d_td_hasStop_17 : decode prog_5_method_2_code 17 = .ok (.ireturn, 1) := by decide +kernel
theorem d_td_hasVehicle_0 : decode prog_5_method_3_code 0 = .ok (.iload_n 1, 1) := by decide +kernel
theorem d_td_hasVehicle_1 : decode prog_5_method_3_code 1 = .ok (.ifCond .lt 15, 3) := by decide +kernel
theorem d_td_hasVehicle_4 : decode prog_5_method_3_code 4 = .ok (.iload_n 1, 1) := by decide +kernel
theorem d_td_hasVehicle_5 : decode prog_5_method_3_code 5 = .ok (.aload_n 0, 1) := by decide +kernel
theorem d_td_hasVehicle_6 : decode prog_5_method_3_code 6 = .ok (.getfield 69, 3) := by decide +kernel
theorem d_td_hasVehicle_9 : decode prog_5_method_3_code 9 = .ok (.if_icmp .ge 7, 3) := by decide +kernel
theorem d_td_hasVehicle_12 : decode prog_5_method_3_code 12 = .ok (.iconst 1, 1) := by decide +kernel
theorem d_td_hasVehicle_13 : decode prog_5_method_3_code 13 = .ok (.goto 4, 3) := by decide +kernel
theorem d_td_hasVehicle_16 : decode prog_5_method_3_code 16 = .ok (.iconst 0, 1) := by decide +kernel
theorem d_td_hasVehicle_17 : decode prog_5_method_3_code 17 = .ok (.ireturn, 1) := by decide +kernel
theorem d_td_areTwoStops_0 : decode prog_5_method_4_code 0 = .ok (.aload_n 0, 1) := by decide +kernel
theorem d_td_areTwoStops_1 : decode prog_5_method_4_code 1 = .ok (.iload_n 1, 1) := by decide +kernel
theorem d_td_areTwoStops_2 : decode prog_5_method_4_code 2 = .ok (.invokevirtual 72, 3) := by decide +kernel
theorem d_td_areTwoStops_5 : decode prog_5_method_4_code 5 = .ok (.ifCond .eq 20, 3) := by decide +kernel
theorem d_td_areTwoStops_8 : decode prog_5_method_4_code 8 = .ok (.aload_n 0, 1) := by decide +kernel
theorem d_td_areTwoStops_9 : decode prog_5_method_4_code 9 = .ok (.iload_n 2, 1) := by decide +kernel
theorem d_td_areTwoStops_10 : decode prog_5_method_4_code 10 = .ok (.invokevirtual 72, 3) := by decide +kernel
theorem d_td_areTwoStops_13 : decode prog_5_method_4_code 13 = .ok (.ifCond .eq 12, 3) := by decide +kernel
theorem d_td_areTwoStops_16 : decode prog_5_method_4_code 16 = .ok (.iload_n 1, 1) := by decide +kernel
theorem d_td_areTwoStops_17 : decode prog_5_method_4_code 17 = .ok (.iload_n 2, 1) := by decide +kernel
theorem d_td_areTwoStops_18 : decode prog_5_method_4_code 18 = .ok (.if_icmp .eq 7, 3) := by decide +kernel
theorem d_td_areTwoStops_21 : decode prog_5_method_4_code 21 = .ok (.iconst 1, 1) := by decide +kernel
theorem d_td_areTwoStops_22 : decode prog_5_method_4_code 22 = .ok (.goto 4, 3) := by decide +kernel
theorem d_td_areTwoStops_25 : decode prog_5_method_4_code 25 = .ok (.iconst 0, 1) := by decide +kernel
theorem d_td_areTwoStops_26 : decode prog_5_method_4_code 26 = .ok (.ireturn, 1) := by decide +kernel
theorem d_td_addStop_0 : decode prog_5_method_5_code 0 = .ok (.aload_n 0, 1) := by decide +kernel
theorem d_td_addStop_1 : decode prog_5_method_5_code 1 = .ok (.getfield 9, 3) := by decide +kernel
theorem d_td_addStop_4 : decode prog_5_method_5_code 4 = .ok (.aload_n 0, 1) := by decide +kernel
theorem d_td_addStop_5 : decode prog_5_method_5_code 5 = .ok (.getfield 65, 3) := by decide +kernel
theorem d_td_addStop_8 : decode prog_5_method_5_code 8 = .ok (.iload_n 1, 1) := by decide +kernel
theorem d_td_addStop_9 : decode prog_5_method_5_code 9 = .ok (.iastore, 1) := by decide +kernel
theorem d_td_addStop_10 : decode prog_5_method_5_code 10 = .ok (.aload_n 0, 1) := by decide +kernel
theorem d_td_addStop_11 : decode prog_5_method_5_code 11 = .ok (.dup, 1) := by decide +kernel
theorem d_td_addStop_12 : decode prog_5_method_5_code 12 = .ok (.getfield 65, 3) := by decide +kernel
theorem d_td_addStop_15 : decode prog_5_method_5_code 15 = .ok (.iconst 1, 1) := by decide +kernel
theorem d_td_addStop_16 : decode prog_5_method_5_code 16 = .ok (.iadd, 1) := by decide +kernel
theorem d_td_addStop_17 : decode prog_5_method_5_code 17 = .ok (.putfield 65, 3) := by decide +kernel
theorem d_td_addStop_20 : decode prog_5_method_5_code 20 = .ok (.aload_n 0, 1) := by decide +kernel
theorem d_td_addStop_21 : decode prog_5_method_5_code 21 = .ok (.getfield 65, 3) := by decide +kernel
theorem d_td_addStop_24 : decode prog_5_method_5_code 24 = .ok (.iconst 1, 1) := by decide +kernel
theorem d_td_addStop_25 : decode prog_5_method_5_code 25 = .ok (.isub, 1) := by decide +kernel
theorem d_td_addStop_26 : decode prog_5_method_5_code 26 = .ok (.ireturn, 1) := by decide +kernel
theorem d_td_addVehicle_0 : decode prog_5_method_6_code 0 = .ok (.aload_n 0, 1) := by decide +kernel
theorem d_td_addVehicle_1 : decode prog_5_method_6_code 1 = .ok (.getfield 43, 3) := by decide +kernel
theorem d_td_addVehicle_4 : decode prog_5_method_6_code 4 = .ok (.aload_n 0, 1) := by decide +kernel
theorem d_td_addVehicle_5 : decode prog_5_method_6_code 5 = .ok (.getfield 69, 3) := by decide +kernel
theorem d_td_addVehicle_8 : decode prog_5_method_6_code 8 = .ok (.iload_n 1, 1) := by decide +kernel
theorem d_td_addVehicle_9 : decode prog_5_method_6_code 9 = .ok (.iastore, 1) := by decide +kernel
theorem d_td_addVehicle_10 : decode prog_5_method_6_code 10 = .ok (.aload_n 0, 1) := by decide +kernel
theorem d_td_addVehicle_11 : decode prog_5_method_6_code 11 = .ok (.getfield 46, 3) := by decide +kernel
theorem d_td_addVehicle_14 : decode prog_5_method_6_code 14 = .ok (.aload_n 0, 1) := by decide +kernel
theorem d_td_addVehicle_15 : decode prog_5_method_6_code 15 = .ok (.getfield 69, 3) := by decide +kernel
theorem d_td_addVehicle_18 : decode prog_5_method_6_code 18 = .ok (.iload_n 2, 1) := by decide +kernel
theorem d_td_addVehicle_19 : decode prog_5_method_6_code 19 = .ok (.iastore, 1) := by decide +kernel
theorem d_td_addVehicle_20 : decode prog_5_method_6_code 20 = .ok (.aload_n 0, 1) := by decide +kernel
theorem d_td_addVehicle_21 : decode prog_5_method_6_code 21 = .ok (.getfield 49, 3) := by decide +kernel
theorem d_td_addVehicle_24 : decode prog_5_method_6_code 24 = .ok (.aload_n 0, 1) := by decide +kernel
theorem d_td_addVehicle_25 : decode prog_5_method_6_code 25 = .ok (.getfield 69, 3) := by decide +kernel
theorem d_td_addVehicle_28 : decode prog_5_method_6_code 28 = .ok (.iload_n 3, 1) := by decide +kernel
theorem d_td_addVehicle_29 : decode prog_5_method_6_code 29 = .ok (.iastore, 1) := by decide +kernel
theorem d_td_addVehicle_30 : decode prog_5_method_6_code 30 = .ok (.aload_n 0, 1) := by decide +kernel
theorem d_td_addVehicle_31 : decode prog_5_method_6_code 31 = .ok (.getfield 52, 3) := by decide +kernel
theorem d_td_addVehicle_34 : decode prog_5_method_6_code 34 = .ok (.aload_n 0, 1) := by decide +kernel
theorem d_td_addVehicle_35 : decode prog_5_method_6_code 35 = .ok (.getfield 69, 3) := by decide +kernel
theorem d_td_addVehicle_38 : decode prog_5_method_6_code 38 = .ok (.iload 4, 2) := by decide +kernel
theorem d_td_addVehicle_40 : decode prog_5_method_6_code 40 = .ok (.iastore, 1) := by decide +kernel
theorem d_td_addVehicle_41 : decode prog_5_method_6_code 41 = .ok (.aload_n 0, 1) := by decide +kernel
theorem d_td_addVehicle_42 : decode prog_5_method_6_code 42 = .ok (.dup, 1) := by decide +kernel
theorem d_td_addVehicle_43 : decode prog_5_method_6_code 43 = .ok (.getfield 69, 3) := by decide +kernel
theorem d_td_addVehicle_46 : decode prog_5_method_6_code 46 = .ok (.iconst 1, 1) := by decide +kernel
theorem d_td_addVehicle_47 : decode prog_5_method_6_code 47 = .ok (.iadd, 1) := by decide +kernel
theorem d_td_addVehicle_48 : decode prog_5_method_6_code 48 = .ok (.putfield 69, 3) := by decide +kernel
theorem d_td_addVehicle_51 : decode prog_5_method_6_code 51 = .ok (.aload_n 0, 1) := by decide +kernel
theorem d_td_addVehicle_52 : decode prog_5_method_6_code 52 = .ok (.getfield 69, 3) := by decide +kernel
theorem d_td_addVehicle_55 : decode prog_5_method_6_code 55 = .ok (.iconst 1, 1) := by decide +kernel
theorem d_td_addVehicle_56 : decode prog_5_method_6_code 56 = .ok (.isub, 1) := by decide +kernel
theorem d_td_addVehicle_57 : decode prog_5_method_6_code 57 = .ok (.ireturn, 1) := by decide +kernel
theorem d_td_setApart_0 : decode prog_5_method_7_code 0 = .ok (.aload_n 0, 1) := by decide +kernel
theorem d_td_setApart_1 : decode prog_5_method_7_code 1 = .ok (.getfield 31, 3) := by decide +kernel
theorem d_td_setApart_4 : decode prog_5_method_7_code 4 = .ok (.iload_n 1, 1) := by decide +kernel
theorem d_td_setApart_5 : decode prog_5_method_7_code 5 = .ok (.iload_n 3, 1) := by decide +kernel
theorem d_td_setApart_6 : decode prog_5_method_7_code 6 = .ok (.ifCond .eq 16, 3) := by decide +kernel
theorem d_td_setApart_9 : decode prog_5_method_7_code 9 = .ok (.aload_n 0, 1) := by decide +kernel
theorem d_td_setApart_10 : decode prog_5_method_7_code 10 = .ok (.getfield 31, 3) := by decide +kernel
theorem d_td_setApart_13 : decode prog_5_method_7_code 13 = .ok (.iload_n 1, 1) := by decide +kernel
theorem d_td_setApart_14 : decode prog_5_method_7_code 14 = .ok (.iaload, 1) := by decide +kernel
theorem d_td_setApart_15 : decode prog_5_method_7_code 15 = .ok (.iload_n 2, 1) := by decide +kernel
theorem d_td_setApart_16 : decode prog_5_method_7_code 16 = .ok (.invokestatic 76, 3) := by decide +kernel
theorem d_td_setApart_19 : decode prog_5_method_7_code 19 = .ok (.goto 13, 3) := by decide +kernel
theorem d_td_setApart_22 : decode prog_5_method_7_code 22 = .ok (.aload_n 0, 1) := by decide +kernel
theorem d_td_setApart_23 : decode prog_5_method_7_code 23 = .ok (.getfield 31, 3) := by decide +kernel
theorem d_td_setApart_26 : decode prog_5_method_7_code 26 = .ok (.iload_n 1, 1) := by decide +kernel
theorem d_td_setApart_27 : decode prog_5_method_7_code 27 = .ok (.iaload, 1) := by decide +kernel
theorem d_td_setApart_28 : decode prog_5_method_7_code 28 = .ok (.iload_n 2, 1) := by decide +kernel
theorem d_td_setApart_29 : decode prog_5_method_7_code 29 = .ok (.invokestatic 80, 3) := by decide +kernel
theorem d_td_setApart_32 : decode prog_5_method_7_code 32 = .ok (.iastore, 1) := by decide +kernel
theorem d_td_setApart_33 : decode prog_5_method_7_code 33 = .ok (.aload_n 0, 1) := by decide +kernel
theorem d_td_setApart_34 : decode prog_5_method_7_code 34 = .ok (.getfield 31, 3) := by decide +kernel
theorem d_td_setApart_37 : decode prog_5_method_7_code 37 = .ok (.iload_n 2, 1) := by decide +kernel
theorem d_td_setApart_38 : decode prog_5_method_7_code 38 = .ok (.iload_n 3, 1) := by decide +kernel
theorem d_td_setApart_39 : decode prog_5_method_7_code 39 = .ok (.ifCond .eq 16, 3) := by decide +kernel
theorem d_td_setApart_42 : decode prog_5_method_7_code 42 = .ok (.aload_n 0, 1) := by decide +kernel
theorem d_td_setApart_43 : decode prog_5_method_7_code 43 = .ok (.getfield 31, 3) := by decide +kernel
theorem d_td_setApart_46 : decode prog_5_method_7_code 46 = .ok (.iload_n 2, 1) := by decide +kernel
theorem d_td_setApart_47 : decode prog_5_method_7_code 47 = .ok (.iaload, 1) := by decide +kernel
theorem d_td_setApart_48 : decode prog_5_method_7_code 48 = .ok (.iload_n 1, 1) := by decide +kernel
theorem d_td_setApart_49 : decode prog_5_method_7_code 49 = .ok (.invokestatic 76, 3) := by decide +kernel
theorem d_td_setApart_52 : decode prog_5_method_7_code 52 = .ok (.goto 13, 3) := by decide +kernel
theorem d_td_setApart_55 : decode prog_5_method_7_code 55 = .ok (.aload_n 0, 1) := by decide +kernel
theorem d_td_setApart_56 : decode prog_5_method_7_code 56 = .ok (.getfield 31, 3) := by decide +kernel
theorem d_td_setApart_59 : decode prog_5_method_7_code 59 = .ok (.iload_n 2, 1) := by decide +kernel
theorem d_td_setApart_60 : decode prog_5_method_7_code 60 = .ok (.iaload, 1) := by decide +kernel
theorem d_td_setApart_61 : decode prog_5_method_7_code 61 = .ok (.iload_n 1, 1) := by decide +kernel
theorem d_td_setApart_62 : decode prog_5_method_7_code 62 = .ok (.invokestatic 80, 3) := by decide +kernel
theorem d_td_setApart_65 : decode prog_5_method_7_code 65 = .ok (.iastore, 1) := by decide +kernel
theorem d_td_setApart_66 : decode prog_5_method_7_code 66 = .ok (.return_, 1) := by decide +kernel
theorem d_td_setBefore_0 : decode prog_5_method_8_code 0 = .ok (.aload_n 0, 1) := by decide +kernel
theorem d_td_setBefore_1 : decode prog_5_method_8_code 1 = .ok (.getfield 37, 3) := by decide +kernel
theorem d_td_setBefore_4 : decode prog_5_method_8_code 4 = .ok (.iload_n 1, 1) := by decide +kernel
theorem d_td_setBefore_5 : decode prog_5_method_8_code 5 = .ok (.aload_n 0, 1) := by decide +kernel
theorem d_td_setBefore_6 : decode prog_5_method_8_code 6 = .ok (.getfield 37, 3) := by decide +kernel
theorem d_td_setBefore_9 : decode prog_5_method_8_code 9 = .ok (.iload_n 1, 1) := by decide +kernel
theorem d_td_setBefore_10 : decode prog_5_method_8_code 10 = .ok (.iaload, 1) := by decide +kernel
theorem d_td_setBefore_11 : decode prog_5_method_8_code 11 = .ok (.iload_n 2, 1) := by decide +kernel
theorem d_td_setBefore_12 : decode prog_5_method_8_code 12 = .ok (.invokestatic 76, 3) := by decide +kernel
theorem d_td_setBefore_15 : decode prog_5_method_8_code 15 = .ok (.iastore, 1) := by decide +kernel
theorem d_td_setBefore_16 : decode prog_5_method_8_code 16 = .ok (.aload_n 0, 1) := by decide +kernel
theorem d_td_setBefore_17 : decode prog_5_method_8_code 17 = .ok (.getfield 34, 3) := by decide +kernel
theorem d_td_setBefore_20 : decode prog_5_method_8_code 20 = .ok (.iload_n 2, 1) := by decide +kernel
theorem d_td_setBefore_21 : decode prog_5_method_8_code 21 = .ok (.aload_n 0, 1) := by decide +kernel
theorem d_td_setBefore_22 : decode prog_5_method_8_code 22 = .ok (.getfield 34, 3) := by decide +kernel
theorem d_td_setBefore_25 : decode prog_5_method_8_code 25 = .ok (.iload_n 2, 1) := by decide +kernel
theorem d_td_setBefore_26 : decode prog_5_method_8_code 26 = .ok (.iaload, 1) := by decide +kernel
theorem d_td_setBefore_27 : decode prog_5_method_8_code 27 = .ok (.iload_n 1, 1) := by decide +kernel
theorem d_td_setBefore_28 : decode prog_5_method_8_code 28 = .ok (.invokestatic 76, 3) := by decide +kernel
theorem d_td_setBefore_31 : decode prog_5_method_8_code 31 = .ok (.iastore, 1) := by decide +kernel
theorem d_td_setBefore_32 : decode prog_5_method_8_code 32 = .ok (.aload_n 0, 1) := by decide +kernel
theorem d_td_setBefore_33 : decode prog_5_method_8_code 33 = .ok (.getfield 40, 3) := by decide +kernel
theorem d_td_setBefore_36 : decode prog_5_method_8_code 36 = .ok (.iload_n 2, 1) := by decide +kernel
theorem d_td_setBefore_37 : decode prog_5_method_8_code 37 = .ok (.iaload, 1) := by decide +kernel
theorem d_td_setBefore_38 : decode prog_5_method_8_code 38 = .ok (.iload_n 2, 1) := by decide +kernel
theorem d_td_setBefore_39 : decode prog_5_method_8_code 39 = .ok (.invokestatic 76, 3) := by decide +kernel
theorem d_td_setBefore_42 : decode prog_5_method_8_code 42 = .ok (.istore_n 3, 1) := by decide +kernel
theorem d_td_setBefore_43 : decode prog_5_method_8_code 43 = .ok (.iconst 0, 1) := by decide +kernel
theorem d_td_setBefore_44 : decode prog_5_method_8_code 44 = .ok (.istore 4, 2) := by decide +kernel
theorem d_td_setBefore_46 : decode prog_5_method_8_code 46 = .ok (.iload 4, 2) := by decide +kernel
theorem d_td_setBefore_48 : decode prog_5_method_8_code 48 = .ok (.aload_n 0, 1) := by decide +kernel
theorem d_td_setBefore_49 : decode prog_5_method_8_code 49 = .ok (.getfield 65, 3) := by decide +kernel
theorem d_td_setBefore_52 : decode prog_5_method_8_code 52 = .ok (.if_icmp .ge 40, 3) := by decide +kernel
theorem d_td_setBefore_55 : decode prog_5_method_8_code 55 = .ok (.iload 4, 2) := by decide +kernel
theorem d_td_setBefore_57 : decode prog_5_method_8_code 57 = .ok (.iload_n 1, 1) := by decide +kernel
theorem d_td_setBefore_58 : decode prog_5_method_8_code 58 = .ok (.if_icmp .eq 17, 3) := by decide +kernel
theorem d_td_setBefore_61 : decode prog_5_method_8_code 61 = .ok (.aload_n 0, 1) := by decide +kernel
theorem d_td_setBefore_62 : decode prog_5_method_8_code 62 = .ok (.getfield 40, 3) := by decide +kernel
theorem d_td_setBefore_65 : decode prog_5_method_8_code 65 = .ok (.iload 4, 2) := by decide +kernel
theorem d_td_setBefore_67 : decode prog_5_method_8_code 67 = .ok (.iaload, 1) := by decide +kernel
theorem d_td_setBefore_68 : decode prog_5_method_8_code 68 = .ok (.iload_n 1, 1) := by decide +kernel
theorem d_td_setBefore_69 : decode prog_5_method_8_code 69 = .ok (.invokestatic 83, 3) := by decide +kernel
theorem d_td_setBefore_72 : decode prog_5_method_8_code 72 = .ok (.ifCond .eq 14, 3) := by decide +kernel
theorem d_td_setBefore_75 : decode prog_5_method_8_code 75 = .ok (.aload_n 0, 1) := by decide +kernel
theorem d_td_setBefore_76 : decode prog_5_method_8_code 76 = .ok (.getfield 40, 3) := by decide +kernel
theorem d_td_setBefore_79 : decode prog_5_method_8_code 79 = .ok (.iload 4, 2) := by decide +kernel
theorem d_td_setBefore_81 : decode prog_5_method_8_code 81 = .ok (.dup2, 1) := by decide +kernel
theorem d_td_setBefore_82 : decode prog_5_method_8_code 82 = .ok (.iaload, 1) := by decide +kernel
theorem d_td_setBefore_83 : decode prog_5_method_8_code 83 = .ok (.iload_n 3, 1) := by decide +kernel
theorem d_td_setBefore_84 : decode prog_5_method_8_code 84 = .ok (.ior, 1) := by decide +kernel
theorem d_td_setBefore_85 : decode prog_5_method_8_code 85 = .ok (.iastore, 1) := by decide +kernel
theorem d_td_setBefore_86 : decode prog_5_method_8_code 86 = .ok (.iinc 4 1, 3) := by decide +kernel
theorem d_td_setBefore_89 : decode prog_5_method_8_code 89 = .ok (.goto (-43), 3) := by decide +kernel
theorem d_td_setBefore_92 : decode prog_5_method_8_code 92 = .ok (.return_, 1) := by decide +kernel
theorem d_td_seconds_0 : decode prog_5_method_9_code 0 = .ok (.aload_n 0, 1) := by decide +kernel
theorem d_td_seconds_1 : decode prog_5_method_9_code 1 = .ok (.getfield 55, 3) := by decide +kernel
theorem d_td_seconds_4 : decode prog_5_method_9_code 4 = .ok (.iload_n 1, 1) := by decide +kernel
theorem d_td_seconds_5 : decode prog_5_method_9_code 5 = .ok (.bipush 8, 2) := by decide +kernel
theorem d_td_seconds_7 : decode prog_5_method_9_code 7 = .ok (.imul, 1) := by decide +kernel
theorem d_td_seconds_8 : decode prog_5_method_9_code 8 = .ok (.iload_n 2, 1) := by decide +kernel
theorem d_td_seconds_9 : decode prog_5_method_9_code 9 = .ok (.iadd, 1) := by decide +kernel
theorem d_td_seconds_10 : decode prog_5_method_9_code 10 = .ok (.iaload, 1) := by decide +kernel
theorem d_td_seconds_11 : decode prog_5_method_9_code 11 = .ok (.ireturn, 1) := by decide +kernel
theorem d_lw_law_0 : decode code 0 = .ok (.new 7, 3) := by decide +kernel
theorem d_lw_law_3 : decode code 3 = .ok (.dup, 1) := by decide +kernel
theorem d_lw_law_4 : decode code 4 = .ok (.invokespecial 9, 3) := by decide +kernel
theorem d_lw_law_7 : decode code 7 = .ok (.astore_n 1, 1) := by decide +kernel
theorem d_lw_law_8 : decode code 8 = .ok (.new 10, 3) := by decide +kernel
theorem d_lw_law_11 : decode code 11 = .ok (.dup, 1) := by decide +kernel
theorem d_lw_law_12 : decode code 12 = .ok (.invokespecial 12, 3) := by decide +kernel
theorem d_lw_law_15 : decode code 15 = .ok (.astore_n 2, 1) := by decide +kernel
theorem d_lw_law_16 : decode code 16 = .ok (.iconst 0, 1) := by decide +kernel
theorem d_lw_law_17 : decode code 17 = .ok (.istore_n 3, 1) := by decide +kernel
theorem d_lw_law_18 : decode code 18 = .ok (.iload_n 3, 1) := by decide +kernel
theorem d_lw_law_19 : decode code 19 = .ok (.aload_n 0, 1) := by decide +kernel
theorem d_lw_law_20 : decode code 20 = .ok (.arraylength, 1) := by decide +kernel
theorem d_lw_law_21 : decode code 21 = .ok (.iconst 5, 1) := by decide +kernel
theorem d_lw_law_22 : decode code 22 = .ok (.isub, 1) := by decide +kernel
theorem d_lw_law_23 : decode code 23 = .ok (.if_icmp .gt 604, 3) := by decide +kernel
theorem d_lw_law_26 : decode code 26 = .ok (.aload_n 0, 1) := by decide +kernel
theorem d_lw_law_27 : decode code 27 = .ok (.iload_n 3, 1) := by decide +kernel
theorem d_lw_law_28 : decode code 28 = .ok (.iaload, 1) := by decide +kernel
theorem d_lw_law_29 : decode code 29 = .ok (.bipush 15, 2) := by decide +kernel
theorem d_lw_law_31 : decode code 31 = .ok (.iand, 1) := by decide +kernel
theorem d_lw_law_32 : decode code 32 = .ok (.tableswitch 589 0 14 #[76, 99, 152, 215, 268, 311, 344, 403, 436, 449, 463, 486, 519, 542, 565], 76) := by decide +kernel
theorem d_lw_law_108 : decode code 108 = .ok (.aload_n 1, 1) := by decide +kernel
theorem d_lw_law_109 : decode code 109 = .ok (.aload_n 0, 1) := by decide +kernel
theorem d_lw_law_110 : decode code 110 = .ok (.iload_n 3, 1) := by decide +kernel
theorem d_lw_law_111 : decode code 111 = .ok (.iconst 1, 1) := by decide +kernel
theorem d_lw_law_112 : decode code 112 = .ok (.iadd, 1) := by decide +kernel
theorem d_lw_law_113 : decode code 113 = .ok (.iaload, 1) := by decide +kernel
theorem d_lw_law_114 : decode code 114 = .ok (.invokevirtual 13, 3) := by decide +kernel
theorem d_lw_law_117 : decode code 117 = .ok (.aload_n 2, 1) := by decide +kernel
theorem d_lw_law_118 : decode code 118 = .ok (.aload_n 0, 1) := by decide +kernel
theorem d_lw_law_119 : decode code 119 = .ok (.iload_n 3, 1) := by decide +kernel
theorem d_lw_law_120 : decode code 120 = .ok (.iconst 1, 1) := by decide +kernel
theorem d_lw_law_121 : decode code 121 = .ok (.iadd, 1) := by decide +kernel
theorem d_lw_law_122 : decode code 122 = .ok (.iaload, 1) := by decide +kernel
theorem d_lw_law_123 : decode code 123 = .ok (.invokevirtual 17, 3) := by decide +kernel
theorem d_lw_law_126 : decode code 126 = .ok (.if_icmp .eq 495, 3) := by decide +kernel
theorem d_lw_law_129 : decode code 129 = .ok (.iconst 0, 1) := by decide +kernel
theorem d_lw_law_130 : decode code 130 = .ok (.ireturn, 1) := by decide +kernel
theorem d_lw_law_131 : decode code 131 = .ok (.aload_n 1, 1) := by decide +kernel
theorem d_lw_law_132 : decode code 132 = .ok (.aload_n 0, 1) := by decide +kernel
theorem d_lw_law_133 : decode code 133 = .ok (.iload_n 3, 1) := by decide +kernel
theorem d_lw_law_134 : decode code 134 = .ok (.iconst 1, 1) := by decide +kernel
theorem d_lw_law_135 : decode code 135 = .ok (.iadd, 1) := by decide +kernel
theorem d_lw_law_136 : decode code 136 = .ok (.iaload, 1) := by decide +kernel
theorem d_lw_law_137 : decode code 137 = .ok (.aload_n 0, 1) := by decide +kernel
theorem d_lw_law_138 : decode code 138 = .ok (.iload_n 3, 1) := by decide +kernel
theorem d_lw_law_139 : decode code 139 = .ok (.iconst 2, 1) := by decide +kernel
theorem d_lw_law_140 : decode code 140 = .ok (.iadd, 1) := by decide +kernel
theorem d_lw_law_141 : decode code 141 = .ok (.iaload, 1) := by decide +kernel
theorem d_lw_law_142 : decode code 142 = .ok (.aload_n 0, 1) := by decide +kernel
theorem d_lw_law_143 : decode code 143 = .ok (.iload_n 3, 1) := by decide +kernel
theorem d_lw_law_144 : decode code 144 = .ok (.iconst 3, 1) := by decide +kernel
theorem d_lw_law_145 : decode code 145 = .ok (.iadd, 1) := by decide +kernel
theorem d_lw_law_146 : decode code 146 = .ok (.iaload, 1) := by decide +kernel
theorem d_lw_law_147 : decode code 147 = .ok (.aload_n 0, 1) := by decide +kernel
theorem d_lw_law_148 : decode code 148 = .ok (.iload_n 3, 1) := by decide +kernel
theorem d_lw_law_149 : decode code 149 = .ok (.iconst 4, 1) := by decide +kernel
theorem d_lw_law_150 : decode code 150 = .ok (.iadd, 1) := by decide +kernel
theorem d_lw_law_151 : decode code 151 = .ok (.iaload, 1) := by decide +kernel
theorem d_lw_law_152 : decode code 152 = .ok (.invokevirtual 18, 3) := by decide +kernel
theorem d_lw_law_155 : decode code 155 = .ok (.aload_n 2, 1) := by decide +kernel
theorem d_lw_law_156 : decode code 156 = .ok (.aload_n 0, 1) := by decide +kernel
theorem d_lw_law_157 : decode code 157 = .ok (.iload_n 3, 1) := by decide +kernel
theorem d_lw_law_158 : decode code 158 = .ok (.iconst 1, 1) := by decide +kernel
theorem d_lw_law_159 : decode code 159 = .ok (.iadd, 1) := by decide +kernel
theorem d_lw_law_160 : decode code 160 = .ok (.iaload, 1) := by decide +kernel
theorem d_lw_law_161 : decode code 161 = .ok (.aload_n 0, 1) := by decide +kernel
theorem d_lw_law_162 : decode code 162 = .ok (.iload_n 3, 1) := by decide +kernel
theorem d_lw_law_163 : decode code 163 = .ok (.iconst 2, 1) := by decide +kernel
theorem d_lw_law_164 : decode code 164 = .ok (.iadd, 1) := by decide +kernel
theorem d_lw_law_165 : decode code 165 = .ok (.iaload, 1) := by decide +kernel
theorem d_lw_law_166 : decode code 166 = .ok (.aload_n 0, 1) := by decide +kernel
theorem d_lw_law_167 : decode code 167 = .ok (.iload_n 3, 1) := by decide +kernel
theorem d_lw_law_168 : decode code 168 = .ok (.iconst 3, 1) := by decide +kernel
theorem d_lw_law_169 : decode code 169 = .ok (.iadd, 1) := by decide +kernel
theorem d_lw_law_170 : decode code 170 = .ok (.iaload, 1) := by decide +kernel
theorem d_lw_law_171 : decode code 171 = .ok (.aload_n 0, 1) := by decide +kernel
theorem d_lw_law_172 : decode code 172 = .ok (.iload_n 3, 1) := by decide +kernel
theorem d_lw_law_173 : decode code 173 = .ok (.iconst 4, 1) := by decide +kernel
theorem d_lw_law_174 : decode code 174 = .ok (.iadd, 1) := by decide +kernel
theorem d_lw_law_175 : decode code 175 = .ok (.iaload, 1) := by decide +kernel
theorem d_lw_law_176 : decode code 176 = .ok (.invokevirtual 22, 3) := by decide +kernel
theorem d_lw_law_179 : decode code 179 = .ok (.if_icmp .eq 442, 3) := by decide +kernel
theorem d_lw_law_182 : decode code 182 = .ok (.iconst 0, 1) := by decide +kernel
theorem d_lw_law_183 : decode code 183 = .ok (.ireturn, 1) := by decide +kernel
theorem d_lw_law_184 : decode code 184 = .ok (.aload_n 1, 1) := by decide +kernel
theorem d_lw_law_185 : decode code 185 = .ok (.aload_n 0, 1) := by decide +kernel
theorem d_lw_law_186 : decode code 186 = .ok (.iload_n 3, 1) := by decide +kernel
theorem d_lw_law_187 : decode code 187 = .ok (.iconst 1, 1) := by decide +kernel
theorem d_lw_law_188 : decode code 188 = .ok (.iadd, 1) := by decide +kernel
theorem d_lw_law_189 : decode code 189 = .ok (.iaload, 1) := by decide +kernel
theorem d_lw_law_190 : decode code 190 = .ok (.aload_n 0, 1) := by decide +kernel
theorem d_lw_law_191 : decode code 191 = .ok (.iload_n 3, 1) := by decide +kernel
theorem d_lw_law_192 : decode code 192 = .ok (.iconst 2, 1) := by decide +kernel
theorem d_lw_law_193 : decode code 193 = .ok (.iadd, 1) := by decide +kernel
