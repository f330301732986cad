theorem d_rd_firstBack_0 : decode prog_4_method_2_code 0 = .ok (.aload_n 0, 1) := by decide +kernel
theorem d_rd_firstBack_1 : decode prog_4_method_2_code 1 = .ok (.getfield 15, 3) := by decide +kernel
theorem d_rd_firstBack_4 : decode prog_4_method_2_code 4 = .ok (.iload_n 1, 1) := by decide +kernel
theorem d_rd_firstBack_5 : decode prog_4_method_2_code 5 = .ok (.sipush 128, 3) := by decide +kernel
theorem d_rd_firstBack_8 : decode prog_4_method_2_code 8 = .ok (.imul, 1) := by decide +kernel
theorem d_rd_firstBack_9 : decode prog_4_method_2_code 9 = .ok (.iload_n 2, 1) := by decide +kernel
theorem d_rd_firstBack_10 : decode prog_4_method_2_code 10 = .ok (.iadd, 1) := by decide +kernel
theorem d_rd_firstBack_11 : decode prog_4_method_2_code 11 = .ok (.iaload, 1) := by decide +kernel
theorem d_rd_firstBack_12 : decode prog_4_method_2_code 12 = .ok (.ireturn, 1) := by decide +kernel
theorem d_rd_findBacks_0 : decode prog_4_method_3_code 0 = .ok (.iconst 0, 1) := by decide +kernel
theorem d_rd_findBacks_1 : decode prog_4_method_3_code 1 = .ok (.istore_n 1, 1) := by decide +kernel
theorem d_rd_findBacks_2 : decode prog_4_method_3_code 2 = .ok (.iload_n 1, 1) := by decide +kernel
theorem d_rd_findBacks_3 : decode prog_4_method_3_code 3 = .ok (.aload_n 0, 1) := by decide +kernel
theorem d_rd_findBacks_4 : decode prog_4_method_3_code 4 = .ok (.getfield 9, 3) := by decide +kernel
theorem d_rd_findBacks_7 : decode prog_4_method_3_code 7 = .ok (.getfield 25, 3) := by decide +kernel
theorem d_rd_findBacks_10 : decode prog_4_method_3_code 10 = .ok (.if_icmp .ge 64, 3) := by decide +kernel
theorem d_rd_findBacks_13 : decode prog_4_method_3_code 13 = .ok (.iconst 1, 1) := by decide +kernel
theorem d_rd_findBacks_14 : decode prog_4_method_3_code 14 = .ok (.istore_n 2, 1) := by decide +kernel
theorem d_rd_findBacks_15 : decode prog_4_method_3_code 15 = .ok (.iload_n 2, 1) := by decide +kernel
theorem d_rd_findBacks_16 : decode prog_4_method_3_code 16 = .ok (.iconst 1, 1) := by decide +kernel
theorem d_rd_findBacks_17 : decode prog_4_method_3_code 17 = .ok (.aload_n 0, 1) := by decide +kernel
theorem d_rd_findBacks_18 : decode prog_4_method_3_code 18 = .ok (.getfield 9, 3) := by decide +kernel
theorem d_rd_findBacks_21 : decode prog_4_method_3_code 21 = .ok (.getfield 31, 3) := by decide +kernel
theorem d_rd_findBacks_24 : decode prog_4_method_3_code 24 = .ok (.ishl, 1) := by decide +kernel
theorem d_rd_findBacks_25 : decode prog_4_method_3_code 25 = .ok (.if_icmp .ge 43, 3) := by decide +kernel
theorem d_rd_findBacks_28 : decode prog_4_method_3_code 28 = .ok (.aload_n 0, 1) := by decide +kernel
theorem d_rd_findBacks_29 : decode prog_4_method_3_code 29 = .ok (.iload_n 1, 1) := by decide +kernel
theorem d_rd_findBacks_30 : decode prog_4_method_3_code 30 = .ok (.iload_n 2, 1) := by decide +kernel
theorem d_rd_findBacks_31 : decode prog_4_method_3_code 31 = .ok (.invokevirtual 34, 3) := by decide +kernel
theorem d_rd_findBacks_34 : decode prog_4_method_3_code 34 = .ok (.istore_n 3, 1) := by decide +kernel
theorem d_rd_findBacks_35 : decode prog_4_method_3_code 35 = .ok (.aload_n 0, 1) := by decide +kernel
theorem d_rd_findBacks_36 : decode prog_4_method_3_code 36 = .ok (.getfield 15, 3) := by decide +kernel
theorem d_rd_findBacks_39 : decode prog_4_method_3_code 39 = .ok (.iload_n 1, 1) := by decide +kernel
theorem d_rd_findBacks_40 : decode prog_4_method_3_code 40 = .ok (.sipush 128, 3) := by decide +kernel
theorem d_rd_findBacks_43 : decode prog_4_method_3_code 43 = .ok (.imul, 1) := by decide +kernel
theorem d_rd_findBacks_44 : decode prog_4_method_3_code 44 = .ok (.iload_n 2, 1) := by decide +kernel
theorem d_rd_findBacks_45 : decode prog_4_method_3_code 45 = .ok (.iadd, 1) := by decide +kernel
theorem d_rd_findBacks_46 : decode prog_4_method_3_code 46 = .ok (.iload_n 3, 1) := by decide +kernel
theorem d_rd_findBacks_47 : decode prog_4_method_3_code 47 = .ok (.ifCond .eq 12, 3) := by decide +kernel
theorem d_rd_findBacks_50 : decode prog_4_method_3_code 50 = .ok (.aload_n 0, 1) := by decide +kernel
theorem d_rd_findBacks_51 : decode prog_4_method_3_code 51 = .ok (.iload_n 1, 1) := by decide +kernel
theorem d_rd_findBacks_52 : decode prog_4_method_3_code 52 = .ok (.iload_n 2, 1) := by decide +kernel
theorem d_rd_findBacks_53 : decode prog_4_method_3_code 53 = .ok (.invokevirtual 38, 3) := by decide +kernel
theorem d_rd_findBacks_56 : decode prog_4_method_3_code 56 = .ok (.goto 5, 3) := by decide +kernel
theorem d_rd_findBacks_59 : decode prog_4_method_3_code 59 = .ok (.ldc 42, 2) := by decide +kernel
theorem d_rd_findBacks_61 : decode prog_4_method_3_code 61 = .ok (.iastore, 1) := by decide +kernel
theorem d_rd_findBacks_62 : decode prog_4_method_3_code 62 = .ok (.iinc 2 1, 3) := by decide +kernel
theorem d_rd_findBacks_65 : decode prog_4_method_3_code 65 = .ok (.goto (-50), 3) := by decide +kernel
theorem d_rd_findBacks_68 : decode prog_4_method_3_code 68 = .ok (.iinc 1 1, 3) := by decide +kernel
theorem d_rd_findBacks_71 : decode prog_4_method_3_code 71 = .ok (.goto (-69), 3) := by decide +kernel
theorem d_rd_findBacks_74 : decode prog_4_method_3_code 74 = .ok (.return_, 1) := by decide +kernel
theorem d_rd_mayHave_0 : decode prog_4_method_4_code 0 = .ok (.iconst 0, 1) := by decide +kernel
theorem d_rd_mayHave_1 : decode prog_4_method_4_code 1 = .ok (.istore_n 3, 1) := by decide +kernel
theorem d_rd_mayHave_2 : decode prog_4_method_4_code 2 = .ok (.iconst 0, 1) := by decide +kernel
theorem d_rd_mayHave_3 : decode prog_4_method_4_code 3 = .ok (.istore 4, 2) := by decide +kernel
theorem d_rd_mayHave_5 : decode prog_4_method_4_code 5 = .ok (.iload 4, 2) := by decide +kernel
theorem d_rd_mayHave_7 : decode prog_4_method_4_code 7 = .ok (.aload_n 0, 1) := by decide +kernel
theorem d_rd_mayHave_8 : decode prog_4_method_4_code 8 = .ok (.getfield 9, 3) := by decide +kernel
theorem d_rd_mayHave_11 : decode prog_4_method_4_code 11 = .ok (.getfield 31, 3) := by decide +kernel
theorem d_rd_mayHave_14 : decode prog_4_method_4_code 14 = .ok (.if_icmp .ge 72, 3) := by decide +kernel
theorem d_rd_mayHave_17 : decode prog_4_method_4_code 17 = .ok (.iload_n 2, 1) := by decide +kernel
theorem d_rd_mayHave_18 : decode prog_4_method_4_code 18 = .ok (.iload 4, 2) := by decide +kernel
theorem d_rd_mayHave_20 : decode prog_4_method_4_code 20 = .ok (.invokestatic 43, 3) := by decide +kernel
theorem d_rd_mayHave_23 : decode prog_4_method_4_code 23 = .ok (.ifCond .eq 57, 3) := by decide +kernel
theorem d_rd_mayHave_26 : decode prog_4_method_4_code 26 = .ok (.aload_n 0, 1) := by decide +kernel
theorem d_rd_mayHave_27 : decode prog_4_method_4_code 27 = .ok (.getfield 9, 3) := by decide +kernel
theorem d_rd_mayHave_30 : decode prog_4_method_4_code 30 = .ok (.getfield 46, 3) := by decide +kernel
theorem d_rd_mayHave_33 : decode prog_4_method_4_code 33 = .ok (.iload 4, 2) := by decide +kernel
theorem d_rd_mayHave_35 : decode prog_4_method_4_code 35 = .ok (.iaload, 1) := by decide +kernel
theorem d_rd_mayHave_36 : decode prog_4_method_4_code 36 = .ok (.istore 5, 2) := by decide +kernel
theorem d_rd_mayHave_38 : decode prog_4_method_4_code 38 = .ok (.iload 5, 2) := by decide +kernel
theorem d_rd_mayHave_40 : decode prog_4_method_4_code 40 = .ok (.iconst (-1), 1) := by decide +kernel
theorem d_rd_mayHave_41 : decode prog_4_method_4_code 41 = .ok (.if_icmp .eq 9, 3) := by decide +kernel
theorem d_rd_mayHave_44 : decode prog_4_method_4_code 44 = .ok (.iload 5, 2) := by decide +kernel
theorem d_rd_mayHave_46 : decode prog_4_method_4_code 46 = .ok (.iload_n 1, 1) := by decide +kernel
theorem d_rd_mayHave_47 : decode prog_4_method_4_code 47 = .ok (.if_icmp .ne 18, 3) := by decide +kernel
theorem d_rd_mayHave_50 : decode prog_4_method_4_code 50 = .ok (.aload_n 0, 1) := by decide +kernel
theorem d_rd_mayHave_51 : decode prog_4_method_4_code 51 = .ok (.getfield 9, 3) := by decide +kernel
theorem d_rd_mayHave_54 : decode prog_4_method_4_code 54 = .ok (.getfield 49, 3) := by decide +kernel
theorem d_rd_mayHave_57 : decode prog_4_method_4_code 57 = .ok (.iload 4, 2) := by decide +kernel
theorem d_rd_mayHave_59 : decode prog_4_method_4_code 59 = .ok (.iaload, 1) := by decide +kernel
theorem d_rd_mayHave_60 : decode prog_4_method_4_code 60 = .ok (.iload_n 2, 1) := by decide +kernel
theorem d_rd_mayHave_61 : decode prog_4_method_4_code 61 = .ok (.iand, 1) := by decide +kernel
theorem d_rd_mayHave_62 : decode prog_4_method_4_code 62 = .ok (.ifCond .eq 5, 3) := by decide +kernel
theorem d_rd_mayHave_65 : decode prog_4_method_4_code 65 = .ok (.iconst 0, 1) := by decide +kernel
theorem d_rd_mayHave_66 : decode prog_4_method_4_code 66 = .ok (.ireturn, 1) := by decide +kernel
theorem d_rd_mayHave_67 : decode prog_4_method_4_code 67 = .ok (.iload_n 3, 1) := by decide +kernel
theorem d_rd_mayHave_68 : decode prog_4_method_4_code 68 = .ok (.aload_n 0, 1) := by decide +kernel
theorem d_rd_mayHave_69 : decode prog_4_method_4_code 69 = .ok (.getfield 9, 3) := by decide +kernel
theorem d_rd_mayHave_72 : decode prog_4_method_4_code 72 = .ok (.getfield 52, 3) := by decide +kernel
theorem d_rd_mayHave_75 : decode prog_4_method_4_code 75 = .ok (.iload 4, 2) := by decide +kernel
theorem d_rd_mayHave_77 : decode prog_4_method_4_code 77 = .ok (.iaload, 1) := by decide +kernel
theorem d_rd_mayHave_78 : decode prog_4_method_4_code 78 = .ok (.iadd, 1) := by decide +kernel
theorem d_rd_mayHave_79 : decode prog_4_method_4_code 79 = .ok (.istore_n 3, 1) := by decide +kernel
theorem d_rd_mayHave_80 : decode prog_4_method_4_code 80 = .ok (.iinc 4 1, 3) := by decide +kernel
theorem d_rd_mayHave_83 : decode prog_4_method_4_code 83 = .ok (.goto (-78), 3) := by decide +kernel
theorem d_rd_mayHave_86 : decode prog_4_method_4_code 86 = .ok (.iload_n 3, 1) := by decide +kernel
theorem d_rd_mayHave_87 : decode prog_4_method_4_code 87 = .ok (.aload_n 0, 1) := by decide +kernel
theorem d_rd_mayHave_88 : decode prog_4_method_4_code 88 = .ok (.getfield 9, 3) := by decide +kernel
theorem d_rd_mayHave_91 : decode prog_4_method_4_code 91 = .ok (.getfield 55, 3) := by decide +kernel
theorem d_rd_mayHave_94 : decode prog_4_method_4_code 94 = .ok (.iload_n 1, 1) := by decide +kernel
theorem d_rd_mayHave_95 : decode prog_4_method_4_code 95 = .ok (.iaload, 1) := by decide +kernel
theorem d_rd_mayHave_96 : decode prog_4_method_4_code 96 = .ok (.if_icmp .gt 7, 3) := by decide +kernel
theorem d_rd_mayHave_99 : decode prog_4_method_4_code 99 = .ok (.iconst 1, 1) := by decide +kernel
theorem d_rd_mayHave_100 : decode prog_4_method_4_code 100 = .ok (.goto 4, 3) := by decide +kernel
theorem d_rd_mayHave_103 : decode prog_4_method_4_code 103 = .ok (.iconst 0, 1) := by decide +kernel
theorem d_rd_mayHave_104 : decode prog_4_method_4_code 104 = .ok (.ireturn, 1) := by decide +kernel
theorem d_rd_findBack_0 : decode prog_4_method_5_code 0 = .ok (.ldc 42, 2) := by decide +kernel
theorem d_rd_findBack_2 : decode prog_4_method_5_code 2 = .ok (.istore_n 3, 1) := by decide +kernel
theorem d_rd_findBack_3 : decode prog_4_method_5_code 3 = .ok (.iconst 0, 1) := by decide +kernel
theorem d_rd_findBack_4 : decode prog_4_method_5_code 4 = .ok (.istore 4, 2) := by decide +kernel
theorem d_rd_findBack_6 : decode prog_4_method_5_code 6 = .ok (.iload 4, 2) := by decide +kernel
theorem d_rd_findBack_8 : decode prog_4_method_5_code 8 = .ok (.aload_n 0, 1) := by decide +kernel
theorem d_rd_findBack_9 : decode prog_4_method_5_code 9 = .ok (.getfield 9, 3) := by decide +kernel
theorem d_rd_findBack_12 : decode prog_4_method_5_code 12 = .ok (.getfield 31, 3) := by decide +kernel
theorem d_rd_findBack_15 : decode prog_4_method_5_code 15 = .ok (.if_icmp .ge 61, 3) := by decide +kernel
theorem d_rd_findBack_18 : decode prog_4_method_5_code 18 = .ok (.iload_n 2, 1) := by decide +kernel
theorem d_rd_findBack_19 : decode prog_4_method_5_code 19 = .ok (.iload 4, 2) := by decide +kernel
theorem d_rd_findBack_21 : decode prog_4_method_5_code 21 = .ok (.invokestatic 43, 3) := by decide +kernel
theorem d_rd_findBack_24 : decode prog_4_method_5_code 24 = .ok (.ifCond .eq 46, 3) := by decide +kernel
theorem d_rd_findBack_27 : decode prog_4_method_5_code 27 = .ok (.aload_n 0, 1) := by decide +kernel
theorem d_rd_findBack_28 : decode prog_4_method_5_code 28 = .ok (.iload_n 1, 1) := by decide +kernel
theorem d_rd_findBack_29 : decode prog_4_method_5_code 29 = .ok (.iload_n 2, 1) := by decide +kernel
theorem d_rd_findBack_30 : decode prog_4_method_5_code 30 = .ok (.iload 4, 2) := by decide +kernel
theorem d_rd_findBack_32 : decode prog_4_method_5_code 32 = .ok (.invokevirtual 58, 3) := by decide +kernel
theorem d_rd_findBack_35 : decode prog_4_method_5_code 35 = .ok (.istore 5, 2) := by decide +kernel
theorem d_rd_findBack_37 : decode prog_4_method_5_code 37 = .ok (.aload_n 0, 1) := by decide +kernel
theorem d_rd_findBack_38 : decode prog_4_method_5_code 38 = .ok (.getfield 19, 3) := by decide +kernel
theorem d_rd_findBack_41 : decode prog_4_method_5_code 41 = .ok (.iload_n 2, 1) := by decide +kernel
theorem d_rd_findBack_42 : decode prog_4_method_5_code 42 = .ok (.bipush 7, 2) := by decide +kernel
theorem d_rd_findBack_44 : decode prog_4_method_5_code 44 = .ok (.imul, 1) := by decide +kernel
theorem d_rd_findBack_45 : decode prog_4_method_5_code 45 = .ok (.iload 4, 2) := by decide +kernel
theorem d_rd_findBack_47 : decode prog_4_method_5_code 47 = .ok (.iadd, 1) := by decide +kernel
theorem d_rd_findBack_48 : decode prog_4_method_5_code 48 = .ok (.iload 5, 2) := by decide +kernel
theorem d_rd_findBack_50 : decode prog_4_method_5_code 50 = .ok (.iastore, 1) := by decide +kernel
theorem d_rd_findBack_51 : decode prog_4_method_5_code 51 = .ok (.iload_n 3, 1) := by decide +kernel
theorem d_rd_findBack_52 : decode prog_4_method_5_code 52 = .ok (.iload 5, 2) := by decide +kernel
theorem d_rd_findBack_54 : decode prog_4_method_5_code 54 = .ok (.aload_n 0, 1) := by decide +kernel
theorem d_rd_findBack_55 : decode prog_4_method_5_code 55 = .ok (.getfield 9, 3) := by decide +kernel
theorem d_rd_findBack_58 : decode prog_4_method_5_code 58 = .ok (.iload 4, 2) := by decide +kernel
theorem d_rd_findBack_60 : decode prog_4_method_5_code 60 = .ok (.bipush 7, 2) := by decide +kernel
theorem d_rd_findBack_62 : decode prog_4_method_5_code 62 = .ok (.invokevirtual 62, 3) := by decide +kernel
theorem d_rd_findBack_65 : decode prog_4_method_5_code 65 = .ok (.iadd, 1) := by decide +kernel
theorem d_rd_findBack_66 : decode prog_4_method_5_code 66 = .ok (.invokestatic 65, 3) := by decide +kernel
theorem d_rd_findBack_69 : decode prog_4_method_5_code 69 = .ok (.istore_n 3, 1) := by decide +kernel
theorem d_rd_findBack_70 : decode prog_4_method_5_code 70 = .ok (.iinc 4 1, 3) := by decide +kernel
theorem d_rd_findBack_73 : decode prog_4_method_5_code 73 = .ok (.goto (-67), 3) := by decide +kernel
theorem d_rd_findBack_76 : decode prog_4_method_5_code 76 = .ok (.iload_n 3, 1) := by decide +kernel
theorem d_rd_findBack_77 : decode prog_4_method_5_code 77 = .ok (.aload_n 0, 1) := by decide +kernel
theorem d_rd_findBack_78 : decode prog_4_method_5_code 78 = .ok (.getfield 9, 3) := by decide +kernel
theorem d_rd_findBack_81 : decode prog_4_method_5_code 81 = .ok (.getfield 70, 3) := by decide +kernel
theorem d_rd_findBack_84 : decode prog_4_method_5_code 84 = .ok (.iload_n 1, 1) := by decide +kernel
theorem d_rd_findBack_85 : decode prog_4_method_5_code 85 = .ok (.iaload, 1) := by decide +kernel
theorem d_rd_findBack_86 : decode prog_4_method_5_code 86 = .ok (.if_icmp .gt 7, 3) := by decide +kernel
theorem d_rd_findBack_89 : decode prog_4_method_5_code 89 = .ok (.iload_n 3, 1) := by decide +kernel
theorem d_rd_findBack_90 : decode prog_4_method_5_code 90 = .ok (.goto 5, 3) := by decide +kernel
theorem d_rd_findBack_93 : decode prog_4_method_5_code 93 = .ok (.ldc 42, 2) := by decide +kernel
theorem d_rd_findBack_95 : decode prog_4_method_5_code 95 = .ok (.ireturn, 1) := by decide +kernel
theorem d_rd_findReady_0 : decode prog_4_method_6_code 0 = .ok (.iload_n 2, 1) := by decide +kernel
theorem d_rd_findReady_1 : decode prog_4_method_6_code 1 = .ok (.iload_n 3, 1) := by decide +kernel
theorem d_rd_findReady_2 : decode prog_4_method_6_code 2 = .ok (.invokestatic 73, 3) := by decide +kernel
theorem d_rd_findReady_5 : decode prog_4_method_6_code 5 = .ok (.istore 4, 2) := by decide +kernel
theorem d_rd_findReady_7 : decode prog_4_method_6_code 7 = .ok (.aload_n 0, 1) := by decide +kernel
theorem d_rd_findReady_8 : decode prog_4_method_6_code 8 = .ok (.getfield 9, 3) := by decide +kernel
theorem d_rd_findReady_11 : decode prog_4_method_6_code 11 = .ok (.getfield 76, 3) := by decide +kernel
theorem d_rd_findReady_14 : decode prog_4_method_6_code 14 = .ok (.iload_n 3, 1) := by decide +kernel
theorem d_rd_findReady_15 : decode prog_4_method_6_code 15 = .ok (.iaload, 1) := by decide +kernel
theorem d_rd_findReady_16 : decode prog_4_method_6_code 16 = .ok (.iload 4, 2) := by decide +kernel
theorem d_rd_findReady_18 : decode prog_4_method_6_code 18 = .ok (.iand, 1) := by decide +kernel
theorem d_rd_findReady_19 : decode prog_4_method_6_code 19 = .ok (.ifCond .eq 6, 3) := by decide +kernel
theorem d_rd_findReady_22 : decode prog_4_method_6_code 22 = .ok (.ldc 42, 2) := by decide +kernel
theorem d_rd_findReady_24 : decode prog_4_method_6_code 24 = .ok (.ireturn, 1) := by decide +kernel
theorem d_rd_findReady_25 : decode prog_4_method_6_code 25 = .ok (.iload 4, 2) := by decide +kernel
theorem d_rd_findReady_27 : decode prog_4_method_6_code 27 = .ok (.ifCond .ne 26, 3) := by decide +kernel
theorem d_rd_findReady_30 : decode prog_4_method_6_code 30 = .ok (.aload_n 0, 1) := by decide +kernel
theorem d_rd_findReady_31 : decode prog_4_method_6_code 31 = .ok (.getfield 9, 3) := by decide +kernel
theorem d_rd_findReady_34 : decode prog_4_method_6_code 34 = .ok (.getfield 79, 3) := by decide +kernel
theorem d_rd_findReady_37 : decode prog_4_method_6_code 37 = .ok (.iload_n 1, 1) := by decide +kernel
theorem d_rd_findReady_38 : decode prog_4_method_6_code 38 = .ok (.iaload, 1) := by decide +kernel
theorem d_rd_findReady_39 : decode prog_4_method_6_code 39 = .ok (.aload_n 0, 1) := by decide +kernel
theorem d_rd_findReady_40 : decode prog_4_method_6_code 40 = .ok (.getfield 9, 3) := by decide +kernel
theorem d_rd_findReady_43 : decode prog_4_method_6_code 43 = .ok (.bipush 7, 2) := by decide +kernel
theorem d_rd_findReady_45 : decode prog_4_method_6_code 45 = .ok (.iload_n 3, 1) := by decide +kernel
theorem d_rd_findReady_46 : decode prog_4_method_6_code 46 = .ok (.invokevirtual 62, 3) := by decide +kernel
theorem d_rd_findReady_49 : decode prog_4_method_6_code 49 = .ok (.iadd, 1) := by decide +kernel
theorem d_rd_findReady_50 : decode prog_4_method_6_code 50 = .ok (.goto 5, 3) := by decide +kernel
theorem d_rd_findReady_53 : decode prog_4_method_6_code 53 = .ok (.ldc 42, 2) := by decide +kernel
theorem d_rd_findReady_55 : decode prog_4_method_6_code 55 = .ok (.istore 5, 2) := by decide +kernel
theorem d_rd_findReady_57 : decode prog_4_method_6_code 57 = .ok (.iconst 0, 1) := by decide +kernel
theorem d_rd_findReady_58 : decode prog_4_method_6_code 58 = .ok (.istore 6, 2) := by decide +kernel
theorem d_rd_findReady_60 : decode prog_4_method_6_code 60 = .ok (.iload 6, 2) := by decide +kernel
theorem d_rd_findReady_62 : decode prog_4_method_6_code 62 = .ok (.aload_n 0, 1) := by decide +kernel
theorem d_rd_findReady_63 : decode prog_4_method_6_code 63 = .ok (.getfield 9, 3) := by decide +kernel
theorem d_rd_findReady_66 : decode prog_4_method_6_code 66 = .ok (.getfield 31, 3) := by decide +kernel
theorem d_rd_findReady_69 : decode prog_4_method_6_code 69 = .ok (.if_icmp .ge 54, 3) := by decide +kernel
theorem d_rd_findReady_72 : decode prog_4_method_6_code 72 = .ok (.iload 4, 2) := by decide +kernel
theorem d_rd_findReady_74 : decode prog_4_method_6_code 74 = .ok (.iload 6, 2) := by decide +kernel
theorem d_rd_findReady_76 : decode prog_4_method_6_code 76 = .ok (.invokestatic 43, 3) := by decide +kernel
theorem d_rd_findReady_79 : decode prog_4_method_6_code 79 = .ok (.ifCond .eq 38, 3) := by decide +kernel
theorem d_rd_findReady_82 : decode prog_4_method_6_code 82 = .ok (.aload_n 0, 1) := by decide +kernel
theorem d_rd_findReady_83 : decode prog_4_method_6_code 83 = .ok (.getfield 19, 3) := by decide +kernel
theorem d_rd_findReady_86 : decode prog_4_method_6_code 86 = .ok (.iload 4, 2) := by decide +kernel
theorem d_rd_findReady_88 : decode prog_4_method_6_code 88 = .ok (.bipush 7, 2) := by decide +kernel
theorem d_rd_findReady_90 : decode prog_4_method_6_code 90 = .ok (.imul, 1) := by decide +kernel
theorem d_rd_findReady_91 : decode prog_4_method_6_code 91 = .ok (.iload 6, 2) := by decide +kernel
theorem d_rd_findReady_93 : decode prog_4_method_6_code 93 = .ok (.iadd, 1) := by decide +kernel
theorem d_rd_findReady_94 : decode prog_4_method_6_code 94 = .ok (.iaload, 1) := by decide +kernel
theorem d_rd_findReady_95 : decode prog_4_method_6_code 95 = .ok (.aload_n 0, 1) := by decide +kernel
theorem d_rd_findReady_96 : decode prog_4_method_6_code 96 = .ok (.getfield 9, 3) := by decide +kernel
theorem d_rd_findReady_99 : decode prog_4_method_6_code 99 = .ok (.iload 6, 2) := by decide +kernel
theorem d_rd_findReady_101 : decode prog_4_method_6_code 101 = .ok (.iload_n 3, 1) := by decide +kernel
theorem d_rd_findReady_102 : decode prog_4_method_6_code 102 = .ok (.invokevirtual 62, 3) := by decide +kernel
theorem d_rd_findReady_105 : decode prog_4_method_6_code 105 = .ok (.iadd, 1) := by decide +kernel
theorem d_rd_findReady_106 : decode prog_4_method_6_code 106 = .ok (.istore 7, 2) := by decide +kernel
theorem d_rd_findReady_108 : decode prog_4_method_6_code 108 = .ok (.iload 5, 2) := by decide +kernel
theorem d_rd_findReady_110 : decode prog_4_method_6_code 110 = .ok (.iload 7, 2) := by decide +kernel
theorem d_rd_findReady_112 : decode prog_4_method_6_code 112 = .ok (.invokestatic 65, 3) := by decide +kernel
theorem d_rd_findReady_115 : decode prog_4_method_6_code 115 = .ok (.istore 5, 2) := by decide +kernel
theorem d_rd_findReady_117 : decode prog_4_method_6_code 117 = .ok (.iinc 6 1, 3) := by decide +kernel
theorem d_rd_findReady_120 : decode prog_4_method_6_code 120 = .ok (.goto (-60), 3) := by decide +kernel
theorem d_rd_findReady_123 : decode prog_4_method_6_code 123 = .ok (.iload 5, 2) := by decide +kernel
theorem d_rd_findReady_125 : decode prog_4_method_6_code 125 = .ok (.aload_n 0, 1) := by decide +kernel
theorem d_rd_findReady_126 : decode prog_4_method_6_code 126 = .ok (.getfield 9, 3) := by decide +kernel
theorem d_rd_findReady_129 : decode prog_4_method_6_code 129 = .ok (.getfield 82, 3) := by decide +kernel
theorem d_rd_findReady_132 : decode prog_4_method_6_code 132 = .ok (.iload_n 3, 1) := by decide +kernel
theorem d_rd_findReady_133 : decode prog_4_method_6_code 133 = .ok (.iaload, 1) := by decide +kernel
theorem d_rd_findReady_134 : decode prog_4_method_6_code 134 = .ok (.if_icmp .le 6, 3) := by decide +kernel
theorem d_rd_findReady_137 : decode prog_4_method_6_code 137 = .ok (.ldc 42, 2) := by decide +kernel
theorem d_rd_findReady_139 : decode prog_4_method_6_code 139 = .ok (.ireturn, 1) := by decide +kernel
theorem d_rd_findReady_140 : decode prog_4_method_6_code 140 = .ok (.iload 5, 2) := by decide +kernel
theorem d_rd_findReady_142 : decode prog_4_method_6_code 142 = .ok (.aload_n 0, 1) := by decide +kernel
theorem d_rd_findReady_143 : decode prog_4_method_6_code 143 = .ok (.getfield 9, 3) := by decide +kernel
theorem d_rd_findReady_146 : decode prog_4_method_6_code 146 = .ok (.getfield 85, 3) := by decide +kernel
theorem d_rd_findReady_149 : decode prog_4_method_6_code 149 = .ok (.iload_n 3, 1) := by decide +kernel
theorem d_rd_findReady_150 : decode prog_4_method_6_code 150 = .ok (.iaload, 1) := by decide +kernel
theorem d_rd_findReady_151 : decode prog_4_method_6_code 151 = .ok (.invokestatic 88, 3) := by decide +kernel
theorem d_rd_findReady_154 : decode prog_4_method_6_code 154 = .ok (.aload_n 0, 1) := by decide +kernel
theorem d_rd_findReady_155 : decode prog_4_method_6_code 155 = .ok (.getfield 9, 3) := by decide +kernel
theorem d_rd_findReady_158 : decode prog_4_method_6_code 158 = .ok (.getfield 91, 3) := by decide +kernel
theorem d_rd_findReady_161 : decode prog_4_method_6_code 161 = .ok (.iload_n 3, 1) := by decide +kernel
theorem d_rd_findReady_162 : decode prog_4_method_6_code 162 = .ok (.iaload, 1) := by decide +kernel
theorem d_rd_findReady_163 : decode prog_4_method_6_code 163 = .ok (.iadd, 1) := by decide +kernel
theorem d_rd_findReady_164 : decode prog_4_method_6_code 164 = .ok (.ireturn, 1) := by decide +kernel
theorem d_rd_drive_0 : decode prog_4_method_7_code 0 = .ok (.aload_n 0, 1) := by decide +kernel
theorem d_rd_drive_1 : decode prog_4_method_7_code 1 = .ok (.iload_n 2, 1) := by decide +kernel
theorem d_rd_drive_2 : decode prog_4_method_7_code 2 = .ok (.aload_n 0, 1) := by decide +kernel
theorem d_rd_drive_3 : decode prog_4_method_7_code 3 = .ok (.iload_n 1, 1) := by decide +kernel
theorem d_rd_drive_4 : decode prog_4_method_7_code 4 = .ok (.iload_n 2, 1) := by decide +kernel
theorem d_rd_drive_5 : decode prog_4_method_7_code 5 = .ok (.invokevirtual 94, 3) := by decide +kernel
theorem d_rd_drive_8 : decode prog_4_method_7_code 8 = .ok (.invokevirtual 97, 3) := by decide +kernel
theorem d_rd_drive_11 : decode prog_4_method_7_code 11 = .ok (.bipush 7, 2) := by decide +kernel
theorem d_rd_drive_13 : decode prog_4_method_7_code 13 = .ok (.istore 4, 2) := by decide +kernel
theorem d_rd_drive_15 : decode prog_4_method_7_code 15 = .ok (.aload_n 0, 1) := by decide +kernel
theorem d_rd_drive_16 : decode prog_4_method_7_code 16 = .ok (.getfield 9, 3) := by decide +kernel
theorem d_rd_drive_19 : decode prog_4_method_7_code 19 = .ok (.getfield 79, 3) := by decide +kernel
theorem d_rd_drive_22 : decode prog_4_method_7_code 22 = .ok (.iload_n 1, 1) := by decide +kernel
theorem d_rd_drive_23 : decode prog_4_method_7_code 23 = .ok (.iaload, 1) := by decide +kernel
theorem d_rd_drive_24 : decode prog_4_method_7_code 24 = .ok (.istore 5, 2) := by decide +kernel
theorem d_rd_drive_26 : decode prog_4_method_7_code 26 = .ok (.iload_n 2, 1) := by decide +kernel
theorem d_rd_drive_27 : decode prog_4_method_7_code 27 = .ok (.istore 6, 2) := by decide +kernel
theorem d_rd_drive_29 : decode prog_4_method_7_code 29 = .ok (.iconst 0, 1) := by decide +kernel
theorem d_rd_drive_30 : decode prog_4_method_7_code 30 = .ok (.istore 7, 2) := by decide +kernel
theorem d_rd_drive_32 : decode prog_4_method_7_code 32 = .ok (.iload 7, 2) := by decide +kernel
theorem d_rd_drive_34 : decode prog_4_method_7_code 34 = .ok (.bipush 7, 2) := by decide +kernel
theorem d_rd_drive_36 : decode prog_4_method_7_code 36 = .ok (.if_icmp .ge 99, 3) := by decide +kernel
theorem d_rd_drive_39 : decode prog_4_method_7_code 39 = .ok (.iload 6, 2) := by decide +kernel
theorem d_rd_drive_41 : decode prog_4_method_7_code 41 = .ok (.ifCond .eq 94, 3) := by decide +kernel
theorem d_rd_drive_44 : decode prog_4_method_7_code 44 = .ok (.aload_n 0, 1) := by decide +kernel
theorem d_rd_drive_45 : decode prog_4_method_7_code 45 = .ok (.iload 4, 2) := by decide +kernel
theorem d_rd_drive_47 : decode prog_4_method_7_code 47 = .ok (.iload 5, 2) := by decide +kernel
theorem d_rd_drive_49 : decode prog_4_method_7_code 49 = .ok (.iload 6, 2) := by decide +kernel
theorem d_rd_drive_51 : decode prog_4_method_7_code 51 = .ok (.invokevirtual 101, 3) := by decide +kernel
theorem d_rd_drive_54 : decode prog_4_method_7_code 54 = .ok (.istore 8, 2) := by decide +kernel
theorem d_rd_drive_56 : decode prog_4_method_7_code 56 = .ok (.iload 8, 2) := by decide +kernel
theorem d_rd_drive_58 : decode prog_4_method_7_code 58 = .ok (.iconst (-1), 1) := by decide +kernel
theorem d_rd_drive_59 : decode prog_4_method_7_code 59 = .ok (.if_icmp .ne 4, 3) := by decide +kernel
theorem d_rd_drive_62 : decode prog_4_method_7_code 62 = .ok (.return_, 1) := by decide +kernel
theorem d_rd_drive_63 : decode prog_4_method_7_code 63 = .ok (.iload 5, 2) := by decide +kernel
theorem d_rd_drive_65 : decode prog_4_method_7_code 65 = .ok (.aload_n 0, 1) := by decide +kernel
theorem d_rd_drive_66 : decode prog_4_method_7_code 66 = .ok (.getfield 9, 3) := by decide +kernel
theorem d_rd_drive_69 : decode prog_4_method_7_code 69 = .ok (.iload 4, 2) := by decide +kernel
theorem d_rd_drive_71 : decode prog_4_method_7_code 71 = .ok (.iload 8, 2) := by decide +kernel
theorem d_rd_drive_73 : decode prog_4_method_7_code 73 = .ok (.invokevirtual 62, 3) := by decide +kernel
theorem d_rd_drive_76 : decode prog_4_method_7_code 76 = .ok (.iadd, 1) := by decide +kernel
theorem d_rd_drive_77 : decode prog_4_method_7_code 77 = .ok (.aload_n 0, 1) := by decide +kernel
theorem d_rd_drive_78 : decode prog_4_method_7_code 78 = .ok (.getfield 9, 3) := by decide +kernel
theorem d_rd_drive_81 : decode prog_4_method_7_code 81 = .ok (.getfield 85, 3) := by decide +kernel
theorem d_rd_drive_84 : decode prog_4_method_7_code 84 = .ok (.iload 8, 2) := by decide +kernel
theorem d_rd_drive_86 : decode prog_4_method_7_code 86 = .ok (.iaload, 1) := by decide +kernel
theorem d_rd_drive_87 : decode prog_4_method_7_code 87 = .ok (.invokestatic 88, 3) := by decide +kernel
theorem d_rd_drive_90 : decode prog_4_method_7_code 90 = .ok (.istore 5, 2) := by decide +kernel
theorem d_rd_drive_92 : decode prog_4_method_7_code 92 = .ok (.aload_n 3, 1) := by decide +kernel
theorem d_rd_drive_93 : decode prog_4_method_7_code 93 = .ok (.iload_n 1, 1) := by decide +kernel
theorem d_rd_drive_94 : decode prog_4_method_7_code 94 = .ok (.iload 8, 2) := by decide +kernel
theorem d_rd_drive_96 : decode prog_4_method_7_code 96 = .ok (.iload 5, 2) := by decide +kernel
theorem d_rd_drive_98 : decode prog_4_method_7_code 98 = .ok (.invokevirtual 104, 3) := by decide +kernel
theorem d_rd_drive_101 : decode prog_4_method_7_code 101 = .ok (.iload 5, 2) := by decide +kernel
theorem d_rd_drive_103 : decode prog_4_method_7_code 103 = .ok (.aload_n 0, 1) := by decide +kernel
theorem d_rd_drive_104 : decode prog_4_method_7_code 104 = .ok (.getfield 9, 3) := by decide +kernel
theorem d_rd_drive_107 : decode prog_4_method_7_code 107 = .ok (.getfield 91, 3) := by decide +kernel
theorem d_rd_drive_110 : decode prog_4_method_7_code 110 = .ok (.iload 8, 2) := by decide +kernel
theorem d_rd_drive_112 : decode prog_4_method_7_code 112 = .ok (.iaload, 1) := by decide +kernel
theorem d_rd_drive_113 : decode prog_4_method_7_code 113 = .ok (.iadd, 1) := by decide +kernel
theorem d_rd_drive_114 : decode prog_4_method_7_code 114 = .ok (.istore 5, 2) := by decide +kernel
theorem d_rd_drive_116 : decode prog_4_method_7_code 116 = .ok (.iload 8, 2) := by decide +kernel
theorem d_rd_drive_118 : decode prog_4_method_7_code 118 = .ok (.istore 4, 2) := by decide +kernel
theorem d_rd_drive_120 : decode prog_4_method_7_code 120 = .ok (.iload 6, 2) := by decide +kernel
theorem d_rd_drive_122 : decode prog_4_method_7_code 122 = .ok (.iload 8, 2) := by decide +kernel
theorem d_rd_drive_124 : decode prog_4_method_7_code 124 = .ok (.invokestatic 73, 3) := by decide +kernel
theorem d_rd_drive_127 : decode prog_4_method_7_code 127 = .ok (.istore 6, 2) := by decide +kernel
theorem d_rd_drive_129 : decode prog_4_method_7_code 129 = .ok (.iinc 7 1, 3) := by decide +kernel
theorem d_rd_drive_132 : decode prog_4_method_7_code 132 = .ok (.goto (-100), 3) := by decide +kernel
theorem d_rd_drive_135 : decode prog_4_method_7_code 135 = .ok (.aload_n 3, 1) := by decide +kernel
theorem d_rd_drive_136 : decode prog_4_method_7_code 136 = .ok (.getfield 110, 3) := by decide +kernel
theorem d_rd_drive_139 : decode prog_4_method_7_code 139 = .ok (.iload_n 1, 1) := by decide +kernel
theorem d_rd_drive_140 : decode prog_4_method_7_code 140 = .ok (.iload 5, 2) := by decide +kernel
theorem d_rd_drive_142 : decode prog_4_method_7_code 142 = .ok (.aload_n 0, 1) := by decide +kernel
theorem d_rd_drive_143 : decode prog_4_method_7_code 143 = .ok (.getfield 9, 3) := by decide +kernel
theorem d_rd_drive_146 : decode prog_4_method_7_code 146 = .ok (.iload 4, 2) := by decide +kernel
theorem d_rd_drive_148 : decode prog_4_method_7_code 148 = .ok (.bipush 7, 2) := by decide +kernel
theorem d_rd_drive_150 : decode prog_4_method_7_code 150 = .ok (.invokevirtual 62, 3) := by decide +kernel
theorem d_rd_drive_153 : decode prog_4_method_7_code 153 = .ok (.iadd, 1) := by decide +kernel
theorem d_rd_drive_154 : decode prog_4_method_7_code 154 = .ok (.iastore, 1) := by decide +kernel
theorem d_rd_drive_155 : decode prog_4_method_7_code 155 = .ok (.return_, 1) := by decide +kernel
theorem d_rd_firstInTime_0 : decode prog_4_method_8_code 0 = .ok (.iconst 0, 1) := by decide +kernel
theorem d_rd_firstInTime_1 : decode prog_4_method_8_code 1 = .ok (.istore 4, 2) := by decide +kernel
theorem d_rd_firstInTime_3 : decode prog_4_method_8_code 3 = .ok (.iload 4, 2) := by decide +kernel
theorem d_rd_firstInTime_5 : decode prog_4_method_8_code 5 = .ok (.aload_n 0, 1) := by decide +kernel
theorem d_rd_firstInTime_6 : decode prog_4_method_8_code 6 = .ok (.getfield 9, 3) := by decide +kernel
theorem d_rd_firstInTime_9 : decode prog_4_method_8_code 9 = .ok (.getfield 31, 3) := by decide +kernel
theorem d_rd_firstInTime_12 : decode prog_4_method_8_code 12 = .ok (.if_icmp .ge 48, 3) := by decide +kernel
theorem d_rd_firstInTime_15 : decode prog_4_method_8_code 15 = .ok (.iload_n 3, 1) := by decide +kernel
theorem d_rd_firstInTime_16 : decode prog_4_method_8_code 16 = .ok (.iload 4, 2) := by decide +kernel
theorem d_rd_firstInTime_18 : decode prog_4_method_8_code 18 = .ok (.invokestatic 43, 3) := by decide +kernel
theorem d_rd_firstInTime_21 : decode prog_4_method_8_code 21 = .ok (.ifCond .eq 33, 3) := by decide +kernel
theorem d_rd_firstInTime_24 : decode prog_4_method_8_code 24 = .ok (.iload_n 2, 1) := by decide +kernel
theorem d_rd_firstInTime_25 : decode prog_4_method_8_code 25 = .ok (.aload_n 0, 1) := by decide +kernel
theorem d_rd_firstInTime_26 : decode prog_4_method_8_code 26 = .ok (.getfield 9, 3) := by decide +kernel
theorem d_rd_firstInTime_29 : decode prog_4_method_8_code 29 = .ok (.iload_n 1, 1) := by decide +kernel
theorem d_rd_firstInTime_30 : decode prog_4_method_8_code 30 = .ok (.iload 4, 2) := by decide +kernel
theorem d_rd_firstInTime_32 : decode prog_4_method_8_code 32 = .ok (.invokevirtual 62, 3) := by decide +kernel
theorem d_rd_firstInTime_35 : decode prog_4_method_8_code 35 = .ok (.iadd, 1) := by decide +kernel
theorem d_rd_firstInTime_36 : decode prog_4_method_8_code 36 = .ok (.aload_n 0, 1) := by decide +kernel
theorem d_rd_firstInTime_37 : decode prog_4_method_8_code 37 = .ok (.getfield 22, 3) := by decide +kernel
theorem d_rd_firstInTime_40 : decode prog_4_method_8_code 40 = .ok (.iload_n 3, 1) := by decide +kernel
theorem d_rd_firstInTime_41 : decode prog_4_method_8_code 41 = .ok (.bipush 7, 2) := by decide +kernel
theorem d_rd_firstInTime_43 : decode prog_4_method_8_code 43 = .ok (.imul, 1) := by decide +kernel
theorem d_rd_firstInTime_44 : decode prog_4_method_8_code 44 = .ok (.iload 4, 2) := by decide +kernel
theorem d_rd_firstInTime_46 : decode prog_4_method_8_code 46 = .ok (.iadd, 1) := by decide +kernel
theorem d_rd_firstInTime_47 : decode prog_4_method_8_code 47 = .ok (.iaload, 1) := by decide +kernel
theorem d_rd_firstInTime_48 : decode prog_4_method_8_code 48 = .ok (.if_icmp .gt 6, 3) := by decide +kernel
theorem d_rd_firstInTime_51 : decode prog_4_method_8_code 51 = .ok (.iload 4, 2) := by decide +kernel
theorem d_rd_firstInTime_53 : decode prog_4_method_8_code 53 = .ok (.ireturn, 1) := by decide +kernel
theorem d_rd_firstInTime_54 : decode prog_4_method_8_code 54 = .ok (.iinc 4 1, 3) := by decide +kernel
theorem d_rd_firstInTime_57 : decode prog_4_method_8_code 57 = .ok (.goto (-54), 3) := by decide +kernel
theorem d_rd_firstInTime_60 : decode prog_4_method_8_code 60 = .ok (.iconst (-1), 1) := by decide +kernel
theorem d_rd_firstInTime_61 : decode prog_4_method_8_code 61 = .ok (.ireturn, 1) := by decide +kernel
theorem d_rd_findLatest_0 : decode prog_4_method_9_code 0 = .ok (.iconst 1, 1) := by decide +kernel
theorem d_rd_findLatest_1 : decode prog_4_method_9_code 1 = .ok (.istore_n 3, 1) := by decide +kernel
theorem d_rd_findLatest_2 : decode prog_4_method_9_code 2 = .ok (.iload_n 3, 1) := by decide +kernel
theorem d_rd_findLatest_3 : decode prog_4_method_9_code 3 = .ok (.iload_n 1, 1) := by decide +kernel
theorem d_rd_findLatest_4 : decode prog_4_method_9_code 4 = .ok (.if_icmp .gt 67, 3) := by decide +kernel
theorem d_rd_findLatest_7 : decode prog_4_method_9_code 7 = .ok (.iconst 0, 1) := by decide +kernel
theorem d_rd_findLatest_8 : decode prog_4_method_9_code 8 = .ok (.istore 4, 2) := by decide +kernel
theorem d_rd_findLatest_10 : decode prog_4_method_9_code 10 = .ok (.iload 4, 2) := by decide +kernel
theorem d_rd_findLatest_12 : decode prog_4_method_9_code 12 = .ok (.aload_n 0, 1) := by decide +kernel
theorem d_rd_findLatest_13 : decode prog_4_method_9_code 13 = .ok (.getfield 9, 3) := by decide +kernel
theorem d_rd_findLatest_16 : decode prog_4_method_9_code 16 = .ok (.getfield 31, 3) := by decide +kernel
theorem d_rd_findLatest_19 : decode prog_4_method_9_code 19 = .ok (.if_icmp .ge 46, 3) := by decide +kernel
theorem d_rd_findLatest_22 : decode prog_4_method_9_code 22 = .ok (.iload_n 3, 1) := by decide +kernel
theorem d_rd_findLatest_23 : decode prog_4_method_9_code 23 = .ok (.iload_n 1, 1) := by decide +kernel
theorem d_rd_findLatest_24 : decode prog_4_method_9_code 24 = .ok (.iconst (-1), 1) := by decide +kernel
theorem d_rd_findLatest_25 : decode prog_4_method_9_code 25 = .ok (.ixor, 1) := by decide +kernel
theorem d_rd_findLatest_26 : decode prog_4_method_9_code 26 = .ok (.iand, 1) := by decide +kernel
theorem d_rd_findLatest_27 : decode prog_4_method_9_code 27 = .ok (.ifCond .ne 32, 3) := by decide +kernel
theorem d_rd_findLatest_30 : decode prog_4_method_9_code 30 = .ok (.iload_n 3, 1) := by decide +kernel
theorem d_rd_findLatest_31 : decode prog_4_method_9_code 31 = .ok (.iload 4, 2) := by decide +kernel
theorem d_rd_findLatest_33 : decode prog_4_method_9_code 33 = .ok (.invokestatic 43, 3) := by decide +kernel
theorem d_rd_findLatest_36 : decode prog_4_method_9_code 36 = .ok (.ifCond .eq 23, 3) := by decide +kernel
theorem d_rd_findLatest_39 : decode prog_4_method_9_code 39 = .ok (.aload_n 0, 1) := by decide +kernel
theorem d_rd_findLatest_40 : decode prog_4_method_9_code 40 = .ok (.getfield 22, 3) := by decide +kernel
theorem d_rd_findLatest_43 : decode prog_4_method_9_code 43 = .ok (.iload_n 3, 1) := by decide +kernel
theorem d_rd_findLatest_44 : decode prog_4_method_9_code 44 = .ok (.bipush 7, 2) := by decide +kernel
theorem d_rd_findLatest_46 : decode prog_4_method_9_code 46 = .ok (.imul, 1) := by decide +kernel
theorem d_rd_findLatest_47 : decode prog_4_method_9_code 47 = .ok (.iload 4, 2) := by decide +kernel
theorem d_rd_findLatest_49 : decode prog_4_method_9_code 49 = .ok (.iadd, 1) := by decide +kernel
theorem d_rd_findLatest_50 : decode prog_4_method_9_code 50 = .ok (.aload_n 0, 1) := by decide +kernel
theorem d_rd_findLatest_51 : decode prog_4_method_9_code 51 = .ok (.iload_n 3, 1) := by decide +kernel
theorem d_rd_findLatest_52 : decode prog_4_method_9_code 52 = .ok (.iload 4, 2) := by decide +kernel
theorem d_rd_findLatest_54 : decode prog_4_method_9_code 54 = .ok (.iload_n 2, 1) := by decide +kernel
theorem d_rd_findLatest_55 : decode prog_4_method_9_code 55 = .ok (.invokevirtual 111, 3) := by decide +kernel
theorem d_rd_findLatest_58 : decode prog_4_method_9_code 58 = .ok (.iastore, 1) := by decide +kernel
theorem d_rd_findLatest_59 : decode prog_4_method_9_code 59 = .ok (.iinc 4 1, 3) := by decide +kernel
theorem d_rd_findLatest_62 : decode prog_4_method_9_code 62 = .ok (.goto (-52), 3) := by decide +kernel
theorem d_rd_findLatest_65 : decode prog_4_method_9_code 65 = .ok (.iinc 3 1, 3) := by decide +kernel
theorem d_rd_findLatest_68 : decode prog_4_method_9_code 68 = .ok (.goto (-66), 3) := by decide +kernel
theorem d_rd_findLatest_71 : decode prog_4_method_9_code 71 = .ok (.return_, 1) := by decide +kernel
theorem d_rd_findLatestAt_0 : decode prog_4_method_10_code 0 = .ok (.iload_n 1, 1) := by decide +kernel
theorem d_rd_findLatestAt_1 : decode prog_4_method_10_code 1 = .ok (.iload_n 2, 1) := by decide +kernel
theorem d_rd_findLatestAt_2 : decode prog_4_method_10_code 2 = .ok (.invokestatic 73, 3) := by decide +kernel
theorem d_rd_findLatestAt_5 : decode prog_4_method_10_code 5 = .ok (.istore 4, 2) := by decide +kernel
theorem d_rd_findLatestAt_7 : decode prog_4_method_10_code 7 = .ok (.aload_n 0, 1) := by decide +kernel
theorem d_rd_findLatestAt_8 : decode prog_4_method_10_code 8 = .ok (.getfield 9, 3) := by decide +kernel
theorem d_rd_findLatestAt_11 : decode prog_4_method_10_code 11 = .ok (.getfield 114, 3) := by decide +kernel
theorem d_rd_findLatestAt_14 : decode prog_4_method_10_code 14 = .ok (.iload_n 2, 1) := by decide +kernel
theorem d_rd_findLatestAt_15 : decode prog_4_method_10_code 15 = .ok (.iaload, 1) := by decide +kernel
theorem d_rd_findLatestAt_16 : decode prog_4_method_10_code 16 = .ok (.iload 4, 2) := by decide +kernel
theorem d_rd_findLatestAt_18 : decode prog_4_method_10_code 18 = .ok (.iand, 1) := by decide +kernel
theorem d_rd_findLatestAt_19 : decode prog_4_method_10_code 19 = .ok (.ifCond .eq 5, 3) := by decide +kernel
theorem d_rd_findLatestAt_22 : decode prog_4_method_10_code 22 = .ok (.iconst (-1), 1) := by decide +kernel
theorem d_rd_findLatestAt_23 : decode prog_4_method_10_code 23 = .ok (.ireturn, 1) := by decide +kernel
theorem d_rd_findLatestAt_24 : decode prog_4_method_10_code 24 = .ok (.iload 4, 2) := by decide +kernel
theorem d_rd_findLatestAt_26 : decode prog_4_method_10_code 26 = .ok (.ifCond .ne 18, 3) := by decide +kernel
theorem d_rd_findLatestAt_29 : decode prog_4_method_10_code 29 = .ok (.iload_n 3, 1) := by decide +kernel
theorem d_rd_findLatestAt_30 : decode prog_4_method_10_code 30 = .ok (.aload_n 0, 1) := by decide +kernel
theorem d_rd_findLatestAt_31 : decode prog_4_method_10_code 31 = .ok (.getfield 9, 3) := by decide +kernel
theorem d_rd_findLatestAt_34 : decode prog_4_method_10_code 34 = .ok (.iload_n 2, 1) := by decide +kernel
theorem d_rd_findLatestAt_35 : decode prog_4_method_10_code 35 = .ok (.bipush 7, 2) := by decide +kernel
theorem d_rd_findLatestAt_37 : decode prog_4_method_10_code 37 = .ok (.invokevirtual 62, 3) := by decide +kernel
theorem d_rd_findLatestAt_40 : decode prog_4_method_10_code 40 = .ok (.isub, 1) := by decide +kernel
