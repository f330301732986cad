theorem d_md_apart_31 : decode prog_7_method_12_code 31 = .ok (.iload_n 1, 1) := by decide +kernel
theorem d_md_apart_32 : decode prog_7_method_12_code 32 = .ok (.iadd, 1) := by decide +kernel
theorem d_md_apart_33 : decode prog_7_method_12_code 33 = .ok (.iload_n 3, 1) := by decide +kernel
theorem d_md_apart_34 : decode prog_7_method_12_code 34 = .ok (.bastore, 1) := by decide +kernel
theorem d_md_apart_35 : decode prog_7_method_12_code 35 = .ok (.iconst 1, 1) := by decide +kernel
theorem d_md_apart_36 : decode prog_7_method_12_code 36 = .ok (.ireturn, 1) := by decide +kernel
theorem d_md_leads_0 : decode prog_7_method_13_code 0 = .ok (.iconst 1, 1) := by decide +kernel
theorem d_md_leads_1 : decode prog_7_method_13_code 1 = .ok (.iload_n 1, 1) := by decide +kernel
theorem d_md_leads_2 : decode prog_7_method_13_code 2 = .ok (.ishl, 1) := by decide +kernel
theorem d_md_leads_3 : decode prog_7_method_13_code 3 = .ok (.istore_n 3, 1) := by decide +kernel
theorem d_md_leads_4 : decode prog_7_method_13_code 4 = .ok (.iconst 0, 1) := by decide +kernel
theorem d_md_leads_5 : decode prog_7_method_13_code 5 = .ok (.istore 4, 2) := by decide +kernel
theorem d_md_leads_7 : decode prog_7_method_13_code 7 = .ok (.iload 4, 2) := by decide +kernel
theorem d_md_leads_9 : decode prog_7_method_13_code 9 = .ok (.aload_n 0, 1) := by decide +kernel
theorem d_md_leads_10 : decode prog_7_method_13_code 10 = .ok (.getfield 78, 3) := by decide +kernel
theorem d_md_leads_13 : decode prog_7_method_13_code 13 = .ok (.if_icmp .ge 82, 3) := by decide +kernel
theorem d_md_leads_16 : decode prog_7_method_13_code 16 = .ok (.iconst 0, 1) := by decide +kernel
theorem d_md_leads_17 : decode prog_7_method_13_code 17 = .ok (.istore 5, 2) := by decide +kernel
theorem d_md_leads_19 : decode prog_7_method_13_code 19 = .ok (.iload 5, 2) := by decide +kernel
theorem d_md_leads_21 : decode prog_7_method_13_code 21 = .ok (.aload_n 0, 1) := by decide +kernel
theorem d_md_leads_22 : decode prog_7_method_13_code 22 = .ok (.getfield 78, 3) := by decide +kernel
theorem d_md_leads_25 : decode prog_7_method_13_code 25 = .ok (.if_icmp .ge 64, 3) := by decide +kernel
theorem d_md_leads_28 : decode prog_7_method_13_code 28 = .ok (.iconst 0, 1) := by decide +kernel
theorem d_md_leads_29 : decode prog_7_method_13_code 29 = .ok (.istore 6, 2) := by decide +kernel
theorem d_md_leads_31 : decode prog_7_method_13_code 31 = .ok (.iload 6, 2) := by decide +kernel
theorem d_md_leads_33 : decode prog_7_method_13_code 33 = .ok (.aload_n 0, 1) := by decide +kernel
theorem d_md_leads_34 : decode prog_7_method_13_code 34 = .ok (.getfield 78, 3) := by decide +kernel
theorem d_md_leads_37 : decode prog_7_method_13_code 37 = .ok (.if_icmp .ge 46, 3) := by decide +kernel
theorem d_md_leads_40 : decode prog_7_method_13_code 40 = .ok (.iload_n 3, 1) := by decide +kernel
theorem d_md_leads_41 : decode prog_7_method_13_code 41 = .ok (.iload 5, 2) := by decide +kernel
theorem d_md_leads_43 : decode prog_7_method_13_code 43 = .ok (.ishr, 1) := by decide +kernel
theorem d_md_leads_44 : decode prog_7_method_13_code 44 = .ok (.iconst 1, 1) := by decide +kernel
theorem d_md_leads_45 : decode prog_7_method_13_code 45 = .ok (.iand, 1) := by decide +kernel
theorem d_md_leads_46 : decode prog_7_method_13_code 46 = .ok (.iconst 1, 1) := by decide +kernel
theorem d_md_leads_47 : decode prog_7_method_13_code 47 = .ok (.if_icmp .ne 36, 3) := by decide +kernel
theorem d_md_leads_50 : decode prog_7_method_13_code 50 = .ok (.iload_n 3, 1) := by decide +kernel
theorem d_md_leads_51 : decode prog_7_method_13_code 51 = .ok (.aload_n 0, 1) := by decide +kernel
theorem d_md_leads_52 : decode prog_7_method_13_code 52 = .ok (.getfield 33, 3) := by decide +kernel
theorem d_md_leads_55 : decode prog_7_method_13_code 55 = .ok (.bipush 7, 2) := by decide +kernel
theorem d_md_leads_57 : decode prog_7_method_13_code 57 = .ok (.iload 5, 2) := by decide +kernel
theorem d_md_leads_59 : decode prog_7_method_13_code 59 = .ok (.imul, 1) := by decide +kernel
theorem d_md_leads_60 : decode prog_7_method_13_code 60 = .ok (.iload 6, 2) := by decide +kernel
theorem d_md_leads_62 : decode prog_7_method_13_code 62 = .ok (.iadd, 1) := by decide +kernel
theorem d_md_leads_63 : decode prog_7_method_13_code 63 = .ok (.baload, 1) := by decide +kernel
theorem d_md_leads_64 : decode prog_7_method_13_code 64 = .ok (.ifCond .eq 10, 3) := by decide +kernel
theorem d_md_leads_67 : decode prog_7_method_13_code 67 = .ok (.iconst 1, 1) := by decide +kernel
theorem d_md_leads_68 : decode prog_7_method_13_code 68 = .ok (.iload 6, 2) := by decide +kernel
theorem d_md_leads_70 : decode prog_7_method_13_code 70 = .ok (.ishl, 1) := by decide +kernel
theorem d_md_leads_71 : decode prog_7_method_13_code 71 = .ok (.goto 4, 3) := by decide +kernel
theorem d_md_leads_74 : decode prog_7_method_13_code 74 = .ok (.iconst 0, 1) := by decide +kernel
theorem d_md_leads_75 : decode prog_7_method_13_code 75 = .ok (.ior, 1) := by decide +kernel
theorem d_md_leads_76 : decode prog_7_method_13_code 76 = .ok (.istore_n 3, 1) := by decide +kernel
theorem d_md_leads_77 : decode prog_7_method_13_code 77 = .ok (.iinc 6 1, 3) := by decide +kernel
theorem d_md_leads_80 : decode prog_7_method_13_code 80 = .ok (.goto (-49), 3) := by decide +kernel
theorem d_md_leads_83 : decode prog_7_method_13_code 83 = .ok (.iinc 5 1, 3) := by decide +kernel
theorem d_md_leads_86 : decode prog_7_method_13_code 86 = .ok (.goto (-67), 3) := by decide +kernel
theorem d_md_leads_89 : decode prog_7_method_13_code 89 = .ok (.iinc 4 1, 3) := by decide +kernel
theorem d_md_leads_92 : decode prog_7_method_13_code 92 = .ok (.goto (-85), 3) := by decide +kernel
theorem d_md_leads_95 : decode prog_7_method_13_code 95 = .ok (.iload_n 3, 1) := by decide +kernel
theorem d_md_leads_96 : decode prog_7_method_13_code 96 = .ok (.iload_n 2, 1) := by decide +kernel
theorem d_md_leads_97 : decode prog_7_method_13_code 97 = .ok (.ishr, 1) := by decide +kernel
theorem d_md_leads_98 : decode prog_7_method_13_code 98 = .ok (.iconst 1, 1) := by decide +kernel
theorem d_md_leads_99 : decode prog_7_method_13_code 99 = .ok (.iand, 1) := by decide +kernel
theorem d_md_leads_100 : decode prog_7_method_13_code 100 = .ok (.iconst 1, 1) := by decide +kernel
theorem d_md_leads_101 : decode prog_7_method_13_code 101 = .ok (.if_icmp .ne 7, 3) := by decide +kernel
theorem d_md_leads_104 : decode prog_7_method_13_code 104 = .ok (.iconst 1, 1) := by decide +kernel
theorem d_md_leads_105 : decode prog_7_method_13_code 105 = .ok (.goto 4, 3) := by decide +kernel
theorem d_md_leads_108 : decode prog_7_method_13_code 108 = .ok (.iconst 0, 1) := by decide +kernel
theorem d_md_leads_109 : decode prog_7_method_13_code 109 = .ok (.ireturn, 1) := by decide +kernel
theorem d_md_before_0 : decode prog_7_method_14_code 0 = .ok (.aload_n 0, 1) := by decide +kernel
theorem d_md_before_1 : decode prog_7_method_14_code 1 = .ok (.iload_n 1, 1) := by decide +kernel
theorem d_md_before_2 : decode prog_7_method_14_code 2 = .ok (.iload_n 2, 1) := by decide +kernel
theorem d_md_before_3 : decode prog_7_method_14_code 3 = .ok (.invokevirtual 110, 3) := by decide +kernel
theorem d_md_before_6 : decode prog_7_method_14_code 6 = .ok (.ifCond .eq 26, 3) := by decide +kernel
theorem d_md_before_9 : decode prog_7_method_14_code 9 = .ok (.aload_n 0, 1) := by decide +kernel
theorem d_md_before_10 : decode prog_7_method_14_code 10 = .ok (.getfield 33, 3) := by decide +kernel
theorem d_md_before_13 : decode prog_7_method_14_code 13 = .ok (.bipush 7, 2) := by decide +kernel
theorem d_md_before_15 : decode prog_7_method_14_code 15 = .ok (.iload_n 1, 1) := by decide +kernel
theorem d_md_before_16 : decode prog_7_method_14_code 16 = .ok (.imul, 1) := by decide +kernel
theorem d_md_before_17 : decode prog_7_method_14_code 17 = .ok (.iload_n 2, 1) := by decide +kernel
theorem d_md_before_18 : decode prog_7_method_14_code 18 = .ok (.iadd, 1) := by decide +kernel
theorem d_md_before_19 : decode prog_7_method_14_code 19 = .ok (.baload, 1) := by decide +kernel
theorem d_md_before_20 : decode prog_7_method_14_code 20 = .ok (.ifCond .ne 12, 3) := by decide +kernel
theorem d_md_before_23 : decode prog_7_method_14_code 23 = .ok (.aload_n 0, 1) := by decide +kernel
theorem d_md_before_24 : decode prog_7_method_14_code 24 = .ok (.iload_n 2, 1) := by decide +kernel
theorem d_md_before_25 : decode prog_7_method_14_code 25 = .ok (.iload_n 1, 1) := by decide +kernel
theorem d_md_before_26 : decode prog_7_method_14_code 26 = .ok (.invokevirtual 114, 3) := by decide +kernel
theorem d_md_before_29 : decode prog_7_method_14_code 29 = .ok (.ifCond .eq 5, 3) := by decide +kernel
theorem d_md_before_32 : decode prog_7_method_14_code 32 = .ok (.iconst 0, 1) := by decide +kernel
theorem d_md_before_33 : decode prog_7_method_14_code 33 = .ok (.ireturn, 1) := by decide +kernel
theorem d_md_before_34 : decode prog_7_method_14_code 34 = .ok (.aload_n 0, 1) := by decide +kernel
theorem d_md_before_35 : decode prog_7_method_14_code 35 = .ok (.getfield 33, 3) := by decide +kernel
theorem d_md_before_38 : decode prog_7_method_14_code 38 = .ok (.bipush 7, 2) := by decide +kernel
theorem d_md_before_40 : decode prog_7_method_14_code 40 = .ok (.iload_n 1, 1) := by decide +kernel
theorem d_md_before_41 : decode prog_7_method_14_code 41 = .ok (.imul, 1) := by decide +kernel
theorem d_md_before_42 : decode prog_7_method_14_code 42 = .ok (.iload_n 2, 1) := by decide +kernel
theorem d_md_before_43 : decode prog_7_method_14_code 43 = .ok (.iadd, 1) := by decide +kernel
theorem d_md_before_44 : decode prog_7_method_14_code 44 = .ok (.iconst 1, 1) := by decide +kernel
theorem d_md_before_45 : decode prog_7_method_14_code 45 = .ok (.bastore, 1) := by decide +kernel
theorem d_md_before_46 : decode prog_7_method_14_code 46 = .ok (.iconst 1, 1) := by decide +kernel
theorem d_md_before_47 : decode prog_7_method_14_code 47 = .ok (.ireturn, 1) := by decide +kernel
theorem d_md_mayFollow_0 : decode prog_7_method_15_code 0 = .ok (.aload_n 0, 1) := by decide +kernel
theorem d_md_mayFollow_1 : decode prog_7_method_15_code 1 = .ok (.getfield 26, 3) := by decide +kernel
theorem d_md_mayFollow_4 : decode prog_7_method_15_code 4 = .ok (.iload_n 3, 1) := by decide +kernel
theorem d_md_mayFollow_5 : decode prog_7_method_15_code 5 = .ok (.iaload, 1) := by decide +kernel
theorem d_md_mayFollow_6 : decode prog_7_method_15_code 6 = .ok (.iconst (-1), 1) := by decide +kernel
theorem d_md_mayFollow_7 : decode prog_7_method_15_code 7 = .ok (.if_icmp .eq 13, 3) := by decide +kernel
theorem d_md_mayFollow_10 : decode prog_7_method_15_code 10 = .ok (.aload_n 0, 1) := by decide +kernel
theorem d_md_mayFollow_11 : decode prog_7_method_15_code 11 = .ok (.getfield 26, 3) := by decide +kernel
theorem d_md_mayFollow_14 : decode prog_7_method_15_code 14 = .ok (.iload_n 3, 1) := by decide +kernel
theorem d_md_mayFollow_15 : decode prog_7_method_15_code 15 = .ok (.iaload, 1) := by decide +kernel
theorem d_md_mayFollow_16 : decode prog_7_method_15_code 16 = .ok (.iload_n 1, 1) := by decide +kernel
theorem d_md_mayFollow_17 : decode prog_7_method_15_code 17 = .ok (.if_icmp .ne 7, 3) := by decide +kernel
theorem d_md_mayFollow_20 : decode prog_7_method_15_code 20 = .ok (.iconst 1, 1) := by decide +kernel
theorem d_md_mayFollow_21 : decode prog_7_method_15_code 21 = .ok (.goto 4, 3) := by decide +kernel
theorem d_md_mayFollow_24 : decode prog_7_method_15_code 24 = .ok (.iconst 0, 1) := by decide +kernel
theorem d_md_mayFollow_25 : decode prog_7_method_15_code 25 = .ok (.istore 4, 2) := by decide +kernel
theorem d_md_mayFollow_27 : decode prog_7_method_15_code 27 = .ok (.iconst 0, 1) := by decide +kernel
theorem d_md_mayFollow_28 : decode prog_7_method_15_code 28 = .ok (.istore 5, 2) := by decide +kernel
theorem d_md_mayFollow_30 : decode prog_7_method_15_code 30 = .ok (.iload 5, 2) := by decide +kernel
theorem d_md_mayFollow_32 : decode prog_7_method_15_code 32 = .ok (.iload_n 2, 1) := by decide +kernel
theorem d_md_mayFollow_33 : decode prog_7_method_15_code 33 = .ok (.if_icmp .ge 72, 3) := by decide +kernel
theorem d_md_mayFollow_36 : decode prog_7_method_15_code 36 = .ok (.iload 4, 2) := by decide +kernel
theorem d_md_mayFollow_38 : decode prog_7_method_15_code 38 = .ok (.ifCond .eq 58, 3) := by decide +kernel
theorem d_md_mayFollow_41 : decode prog_7_method_15_code 41 = .ok (.aload_n 0, 1) := by decide +kernel
theorem d_md_mayFollow_42 : decode prog_7_method_15_code 42 = .ok (.getfield 57, 3) := by decide +kernel
theorem d_md_mayFollow_45 : decode prog_7_method_15_code 45 = .ok (.iload 5, 2) := by decide +kernel
theorem d_md_mayFollow_47 : decode prog_7_method_15_code 47 = .ok (.iaload, 1) := by decide +kernel
theorem d_md_mayFollow_48 : decode prog_7_method_15_code 48 = .ok (.iload_n 3, 1) := by decide +kernel
theorem d_md_mayFollow_49 : decode prog_7_method_15_code 49 = .ok (.if_icmp .eq 47, 3) := by decide +kernel
theorem d_md_mayFollow_52 : decode prog_7_method_15_code 52 = .ok (.aload_n 0, 1) := by decide +kernel
theorem d_md_mayFollow_53 : decode prog_7_method_15_code 53 = .ok (.getfield 29, 3) := by decide +kernel
theorem d_md_mayFollow_56 : decode prog_7_method_15_code 56 = .ok (.bipush 7, 2) := by decide +kernel
theorem d_md_mayFollow_58 : decode prog_7_method_15_code 58 = .ok (.aload_n 0, 1) := by decide +kernel
theorem d_md_mayFollow_59 : decode prog_7_method_15_code 59 = .ok (.getfield 57, 3) := by decide +kernel
theorem d_md_mayFollow_62 : decode prog_7_method_15_code 62 = .ok (.iload 5, 2) := by decide +kernel
theorem d_md_mayFollow_64 : decode prog_7_method_15_code 64 = .ok (.iaload, 1) := by decide +kernel
theorem d_md_mayFollow_65 : decode prog_7_method_15_code 65 = .ok (.imul, 1) := by decide +kernel
theorem d_md_mayFollow_66 : decode prog_7_method_15_code 66 = .ok (.iload_n 3, 1) := by decide +kernel
theorem d_md_mayFollow_67 : decode prog_7_method_15_code 67 = .ok (.iadd, 1) := by decide +kernel
theorem d_md_mayFollow_68 : decode prog_7_method_15_code 68 = .ok (.baload, 1) := by decide +kernel
theorem d_md_mayFollow_69 : decode prog_7_method_15_code 69 = .ok (.ifCond .ne 27, 3) := by decide +kernel
theorem d_md_mayFollow_72 : decode prog_7_method_15_code 72 = .ok (.aload_n 0, 1) := by decide +kernel
theorem d_md_mayFollow_73 : decode prog_7_method_15_code 73 = .ok (.getfield 33, 3) := by decide +kernel
theorem d_md_mayFollow_76 : decode prog_7_method_15_code 76 = .ok (.bipush 7, 2) := by decide +kernel
theorem d_md_mayFollow_78 : decode prog_7_method_15_code 78 = .ok (.iload_n 3, 1) := by decide +kernel
theorem d_md_mayFollow_79 : decode prog_7_method_15_code 79 = .ok (.imul, 1) := by decide +kernel
theorem d_md_mayFollow_80 : decode prog_7_method_15_code 80 = .ok (.aload_n 0, 1) := by decide +kernel
theorem d_md_mayFollow_81 : decode prog_7_method_15_code 81 = .ok (.getfield 57, 3) := by decide +kernel
theorem d_md_mayFollow_84 : decode prog_7_method_15_code 84 = .ok (.iload 5, 2) := by decide +kernel
theorem d_md_mayFollow_86 : decode prog_7_method_15_code 86 = .ok (.iaload, 1) := by decide +kernel
theorem d_md_mayFollow_87 : decode prog_7_method_15_code 87 = .ok (.iadd, 1) := by decide +kernel
theorem d_md_mayFollow_88 : decode prog_7_method_15_code 88 = .ok (.baload, 1) := by decide +kernel
theorem d_md_mayFollow_89 : decode prog_7_method_15_code 89 = .ok (.ifCond .ne 7, 3) := by decide +kernel
theorem d_md_mayFollow_92 : decode prog_7_method_15_code 92 = .ok (.iconst 1, 1) := by decide +kernel
theorem d_md_mayFollow_93 : decode prog_7_method_15_code 93 = .ok (.goto 4, 3) := by decide +kernel
theorem d_md_mayFollow_96 : decode prog_7_method_15_code 96 = .ok (.iconst 0, 1) := by decide +kernel
theorem d_md_mayFollow_97 : decode prog_7_method_15_code 97 = .ok (.istore 4, 2) := by decide +kernel
theorem d_md_mayFollow_99 : decode prog_7_method_15_code 99 = .ok (.iinc 5 1, 3) := by decide +kernel
theorem d_md_mayFollow_102 : decode prog_7_method_15_code 102 = .ok (.goto (-72), 3) := by decide +kernel
theorem d_md_mayFollow_105 : decode prog_7_method_15_code 105 = .ok (.iload 4, 2) := by decide +kernel
theorem d_md_mayFollow_107 : decode prog_7_method_15_code 107 = .ok (.ireturn, 1) := by decide +kernel
theorem d_md_drive_0 : decode prog_7_method_16_code 0 = .ok (.aload_n 0, 1) := by decide +kernel
theorem d_md_drive_1 : decode prog_7_method_16_code 1 = .ok (.getfield 39, 3) := by decide +kernel
theorem d_md_drive_4 : decode prog_7_method_16_code 4 = .ok (.iload_n 1, 1) := by decide +kernel
theorem d_md_drive_5 : decode prog_7_method_16_code 5 = .ok (.iaload, 1) := by decide +kernel
theorem d_md_drive_6 : decode prog_7_method_16_code 6 = .ok (.istore_n 3, 1) := by decide +kernel
theorem d_md_drive_7 : decode prog_7_method_16_code 7 = .ok (.bipush 7, 2) := by decide +kernel
theorem d_md_drive_9 : decode prog_7_method_16_code 9 = .ok (.istore 4, 2) := by decide +kernel
theorem d_md_drive_11 : decode prog_7_method_16_code 11 = .ok (.iconst 0, 1) := by decide +kernel
theorem d_md_drive_12 : decode prog_7_method_16_code 12 = .ok (.istore 5, 2) := by decide +kernel
theorem d_md_drive_14 : decode prog_7_method_16_code 14 = .ok (.iconst 0, 1) := by decide +kernel
theorem d_md_drive_15 : decode prog_7_method_16_code 15 = .ok (.istore 6, 2) := by decide +kernel
theorem d_md_drive_17 : decode prog_7_method_16_code 17 = .ok (.iload 6, 2) := by decide +kernel
theorem d_md_drive_19 : decode prog_7_method_16_code 19 = .ok (.iload_n 2, 1) := by decide +kernel
theorem d_md_drive_20 : decode prog_7_method_16_code 20 = .ok (.if_icmp .ge 104, 3) := by decide +kernel
theorem d_md_drive_23 : decode prog_7_method_16_code 23 = .ok (.aload_n 0, 1) := by decide +kernel
theorem d_md_drive_24 : decode prog_7_method_16_code 24 = .ok (.getfield 57, 3) := by decide +kernel
theorem d_md_drive_27 : decode prog_7_method_16_code 27 = .ok (.iload 6, 2) := by decide +kernel
theorem d_md_drive_29 : decode prog_7_method_16_code 29 = .ok (.iaload, 1) := by decide +kernel
theorem d_md_drive_30 : decode prog_7_method_16_code 30 = .ok (.istore 7, 2) := by decide +kernel
theorem d_md_drive_32 : decode prog_7_method_16_code 32 = .ok (.iload_n 3, 1) := by decide +kernel
theorem d_md_drive_33 : decode prog_7_method_16_code 33 = .ok (.aload_n 0, 1) := by decide +kernel
theorem d_md_drive_34 : decode prog_7_method_16_code 34 = .ok (.getfield 48, 3) := by decide +kernel
theorem d_md_drive_37 : decode prog_7_method_16_code 37 = .ok (.bipush 8, 2) := by decide +kernel
theorem d_md_drive_39 : decode prog_7_method_16_code 39 = .ok (.iload 4, 2) := by decide +kernel
theorem d_md_drive_41 : decode prog_7_method_16_code 41 = .ok (.imul, 1) := by decide +kernel
theorem d_md_drive_42 : decode prog_7_method_16_code 42 = .ok (.iload 7, 2) := by decide +kernel
theorem d_md_drive_44 : decode prog_7_method_16_code 44 = .ok (.iadd, 1) := by decide +kernel
theorem d_md_drive_45 : decode prog_7_method_16_code 45 = .ok (.iaload, 1) := by decide +kernel
theorem d_md_drive_46 : decode prog_7_method_16_code 46 = .ok (.iadd, 1) := by decide +kernel
theorem d_md_drive_47 : decode prog_7_method_16_code 47 = .ok (.istore_n 3, 1) := by decide +kernel
theorem d_md_drive_48 : decode prog_7_method_16_code 48 = .ok (.iload_n 3, 1) := by decide +kernel
theorem d_md_drive_49 : decode prog_7_method_16_code 49 = .ok (.aload_n 0, 1) := by decide +kernel
theorem d_md_drive_50 : decode prog_7_method_16_code 50 = .ok (.getfield 16, 3) := by decide +kernel
theorem d_md_drive_53 : decode prog_7_method_16_code 53 = .ok (.iload 7, 2) := by decide +kernel
theorem d_md_drive_55 : decode prog_7_method_16_code 55 = .ok (.iaload, 1) := by decide +kernel
theorem d_md_drive_56 : decode prog_7_method_16_code 56 = .ok (.if_icmp .le 5, 3) := by decide +kernel
theorem d_md_drive_59 : decode prog_7_method_16_code 59 = .ok (.iconst (-1), 1) := by decide +kernel
theorem d_md_drive_60 : decode prog_7_method_16_code 60 = .ok (.ireturn, 1) := by decide +kernel
theorem d_md_drive_61 : decode prog_7_method_16_code 61 = .ok (.iload_n 3, 1) := by decide +kernel
theorem d_md_drive_62 : decode prog_7_method_16_code 62 = .ok (.aload_n 0, 1) := by decide +kernel
theorem d_md_drive_63 : decode prog_7_method_16_code 63 = .ok (.getfield 13, 3) := by decide +kernel
theorem d_md_drive_66 : decode prog_7_method_16_code 66 = .ok (.iload 7, 2) := by decide +kernel
theorem d_md_drive_68 : decode prog_7_method_16_code 68 = .ok (.iaload, 1) := by decide +kernel
theorem d_md_drive_69 : decode prog_7_method_16_code 69 = .ok (.if_icmp .ge 13, 3) := by decide +kernel
theorem d_md_drive_72 : decode prog_7_method_16_code 72 = .ok (.aload_n 0, 1) := by decide +kernel
theorem d_md_drive_73 : decode prog_7_method_16_code 73 = .ok (.getfield 13, 3) := by decide +kernel
theorem d_md_drive_76 : decode prog_7_method_16_code 76 = .ok (.iload 7, 2) := by decide +kernel
theorem d_md_drive_78 : decode prog_7_method_16_code 78 = .ok (.iaload, 1) := by decide +kernel
theorem d_md_drive_79 : decode prog_7_method_16_code 79 = .ok (.goto 4, 3) := by decide +kernel
theorem d_md_drive_82 : decode prog_7_method_16_code 82 = .ok (.iload_n 3, 1) := by decide +kernel
theorem d_md_drive_83 : decode prog_7_method_16_code 83 = .ok (.istore_n 3, 1) := by decide +kernel
theorem d_md_drive_84 : decode prog_7_method_16_code 84 = .ok (.aload_n 0, 1) := by decide +kernel
theorem d_md_drive_85 : decode prog_7_method_16_code 85 = .ok (.getfield 63, 3) := by decide +kernel
theorem d_md_drive_88 : decode prog_7_method_16_code 88 = .ok (.iload 7, 2) := by decide +kernel
theorem d_md_drive_90 : decode prog_7_method_16_code 90 = .ok (.iload_n 3, 1) := by decide +kernel
theorem d_md_drive_91 : decode prog_7_method_16_code 91 = .ok (.iastore, 1) := by decide +kernel
theorem d_md_drive_92 : decode prog_7_method_16_code 92 = .ok (.iload_n 3, 1) := by decide +kernel
theorem d_md_drive_93 : decode prog_7_method_16_code 93 = .ok (.aload_n 0, 1) := by decide +kernel
theorem d_md_drive_94 : decode prog_7_method_16_code 94 = .ok (.getfield 19, 3) := by decide +kernel
theorem d_md_drive_97 : decode prog_7_method_16_code 97 = .ok (.iload 7, 2) := by decide +kernel
theorem d_md_drive_99 : decode prog_7_method_16_code 99 = .ok (.iaload, 1) := by decide +kernel
theorem d_md_drive_100 : decode prog_7_method_16_code 100 = .ok (.iadd, 1) := by decide +kernel
theorem d_md_drive_101 : decode prog_7_method_16_code 101 = .ok (.istore_n 3, 1) := by decide +kernel
theorem d_md_drive_102 : decode prog_7_method_16_code 102 = .ok (.iload 5, 2) := by decide +kernel
theorem d_md_drive_104 : decode prog_7_method_16_code 104 = .ok (.aload_n 0, 1) := by decide +kernel
theorem d_md_drive_105 : decode prog_7_method_16_code 105 = .ok (.getfield 7, 3) := by decide +kernel
theorem d_md_drive_108 : decode prog_7_method_16_code 108 = .ok (.iload 7, 2) := by decide +kernel
theorem d_md_drive_110 : decode prog_7_method_16_code 110 = .ok (.iaload, 1) := by decide +kernel
theorem d_md_drive_111 : decode prog_7_method_16_code 111 = .ok (.iadd, 1) := by decide +kernel
theorem d_md_drive_112 : decode prog_7_method_16_code 112 = .ok (.istore 5, 2) := by decide +kernel
theorem d_md_drive_114 : decode prog_7_method_16_code 114 = .ok (.iload 7, 2) := by decide +kernel
theorem d_md_drive_116 : decode prog_7_method_16_code 116 = .ok (.istore 4, 2) := by decide +kernel
theorem d_md_drive_118 : decode prog_7_method_16_code 118 = .ok (.iinc 6 1, 3) := by decide +kernel
theorem d_md_drive_121 : decode prog_7_method_16_code 121 = .ok (.goto (-104), 3) := by decide +kernel
theorem d_md_drive_124 : decode prog_7_method_16_code 124 = .ok (.iload_n 3, 1) := by decide +kernel
theorem d_md_drive_125 : decode prog_7_method_16_code 125 = .ok (.aload_n 0, 1) := by decide +kernel
theorem d_md_drive_126 : decode prog_7_method_16_code 126 = .ok (.getfield 48, 3) := by decide +kernel
theorem d_md_drive_129 : decode prog_7_method_16_code 129 = .ok (.bipush 8, 2) := by decide +kernel
theorem d_md_drive_131 : decode prog_7_method_16_code 131 = .ok (.iload 4, 2) := by decide +kernel
theorem d_md_drive_133 : decode prog_7_method_16_code 133 = .ok (.imul, 1) := by decide +kernel
theorem d_md_drive_134 : decode prog_7_method_16_code 134 = .ok (.bipush 7, 2) := by decide +kernel
theorem d_md_drive_136 : decode prog_7_method_16_code 136 = .ok (.iadd, 1) := by decide +kernel
theorem d_md_drive_137 : decode prog_7_method_16_code 137 = .ok (.iaload, 1) := by decide +kernel
theorem d_md_drive_138 : decode prog_7_method_16_code 138 = .ok (.iadd, 1) := by decide +kernel
theorem d_md_drive_139 : decode prog_7_method_16_code 139 = .ok (.istore_n 3, 1) := by decide +kernel
theorem d_md_drive_140 : decode prog_7_method_16_code 140 = .ok (.iload_n 3, 1) := by decide +kernel
theorem d_md_drive_141 : decode prog_7_method_16_code 141 = .ok (.aload_n 0, 1) := by decide +kernel
theorem d_md_drive_142 : decode prog_7_method_16_code 142 = .ok (.getfield 42, 3) := by decide +kernel
theorem d_md_drive_145 : decode prog_7_method_16_code 145 = .ok (.iload_n 1, 1) := by decide +kernel
theorem d_md_drive_146 : decode prog_7_method_16_code 146 = .ok (.iaload, 1) := by decide +kernel
theorem d_md_drive_147 : decode prog_7_method_16_code 147 = .ok (.if_icmp .gt 18, 3) := by decide +kernel
theorem d_md_drive_150 : decode prog_7_method_16_code 150 = .ok (.iload 5, 2) := by decide +kernel
theorem d_md_drive_152 : decode prog_7_method_16_code 152 = .ok (.aload_n 0, 1) := by decide +kernel
theorem d_md_drive_153 : decode prog_7_method_16_code 153 = .ok (.getfield 36, 3) := by decide +kernel
theorem d_md_drive_156 : decode prog_7_method_16_code 156 = .ok (.iload_n 1, 1) := by decide +kernel
theorem d_md_drive_157 : decode prog_7_method_16_code 157 = .ok (.iaload, 1) := by decide +kernel
theorem d_md_drive_158 : decode prog_7_method_16_code 158 = .ok (.if_icmp .gt 7, 3) := by decide +kernel
theorem d_md_drive_161 : decode prog_7_method_16_code 161 = .ok (.iload_n 3, 1) := by decide +kernel
theorem d_md_drive_162 : decode prog_7_method_16_code 162 = .ok (.goto 4, 3) := by decide +kernel
theorem d_md_drive_165 : decode prog_7_method_16_code 165 = .ok (.iconst (-1), 1) := by decide +kernel
theorem d_md_drive_166 : decode prog_7_method_16_code 166 = .ok (.ireturn, 1) := by decide +kernel
theorem d_md_setOf_0 : decode prog_7_method_17_code 0 = .ok (.iconst 0, 1) := by decide +kernel
theorem d_md_setOf_1 : decode prog_7_method_17_code 1 = .ok (.istore_n 2, 1) := by decide +kernel
theorem d_md_setOf_2 : decode prog_7_method_17_code 2 = .ok (.iconst 0, 1) := by decide +kernel
theorem d_md_setOf_3 : decode prog_7_method_17_code 3 = .ok (.istore_n 3, 1) := by decide +kernel
theorem d_md_setOf_4 : decode prog_7_method_17_code 4 = .ok (.iload_n 3, 1) := by decide +kernel
theorem d_md_setOf_5 : decode prog_7_method_17_code 5 = .ok (.iload_n 1, 1) := by decide +kernel
theorem d_md_setOf_6 : decode prog_7_method_17_code 6 = .ok (.if_icmp .ge 20, 3) := by decide +kernel
theorem d_md_setOf_9 : decode prog_7_method_17_code 9 = .ok (.iload_n 2, 1) := by decide +kernel
theorem d_md_setOf_10 : decode prog_7_method_17_code 10 = .ok (.iconst 1, 1) := by decide +kernel
theorem d_md_setOf_11 : decode prog_7_method_17_code 11 = .ok (.aload_n 0, 1) := by decide +kernel
theorem d_md_setOf_12 : decode prog_7_method_17_code 12 = .ok (.getfield 57, 3) := by decide +kernel
theorem d_md_setOf_15 : decode prog_7_method_17_code 15 = .ok (.iload_n 3, 1) := by decide +kernel
theorem d_md_setOf_16 : decode prog_7_method_17_code 16 = .ok (.iaload, 1) := by decide +kernel
theorem d_md_setOf_17 : decode prog_7_method_17_code 17 = .ok (.ishl, 1) := by decide +kernel
theorem d_md_setOf_18 : decode prog_7_method_17_code 18 = .ok (.ior, 1) := by decide +kernel
theorem d_md_setOf_19 : decode prog_7_method_17_code 19 = .ok (.istore_n 2, 1) := by decide +kernel
theorem d_md_setOf_20 : decode prog_7_method_17_code 20 = .ok (.iinc 3 1, 3) := by decide +kernel
theorem d_md_setOf_23 : decode prog_7_method_17_code 23 = .ok (.goto (-19), 3) := by decide +kernel
theorem d_md_setOf_26 : decode prog_7_method_17_code 26 = .ok (.iload_n 2, 1) := by decide +kernel
theorem d_md_setOf_27 : decode prog_7_method_17_code 27 = .ok (.ireturn, 1) := by decide +kernel
theorem d_md_rowOf_0 : decode prog_7_method_18_code 0 = .ok (.iconst 0, 1) := by decide +kernel
theorem d_md_rowOf_1 : decode prog_7_method_18_code 1 = .ok (.istore_n 2, 1) := by decide +kernel
theorem d_md_rowOf_2 : decode prog_7_method_18_code 2 = .ok (.iconst 0, 1) := by decide +kernel
theorem d_md_rowOf_3 : decode prog_7_method_18_code 3 = .ok (.istore_n 3, 1) := by decide +kernel
theorem d_md_rowOf_4 : decode prog_7_method_18_code 4 = .ok (.iload_n 3, 1) := by decide +kernel
theorem d_md_rowOf_5 : decode prog_7_method_18_code 5 = .ok (.iload_n 1, 1) := by decide +kernel
theorem d_md_rowOf_6 : decode prog_7_method_18_code 6 = .ok (.if_icmp .ge 22, 3) := by decide +kernel
theorem d_md_rowOf_9 : decode prog_7_method_18_code 9 = .ok (.iload_n 2, 1) := by decide +kernel
theorem d_md_rowOf_10 : decode prog_7_method_18_code 10 = .ok (.aload_n 0, 1) := by decide +kernel
theorem d_md_rowOf_11 : decode prog_7_method_18_code 11 = .ok (.getfield 57, 3) := by decide +kernel
theorem d_md_rowOf_14 : decode prog_7_method_18_code 14 = .ok (.iload_n 3, 1) := by decide +kernel
theorem d_md_rowOf_15 : decode prog_7_method_18_code 15 = .ok (.iaload, 1) := by decide +kernel
theorem d_md_rowOf_16 : decode prog_7_method_18_code 16 = .ok (.iconst 3, 1) := by decide +kernel
theorem d_md_rowOf_17 : decode prog_7_method_18_code 17 = .ok (.iload_n 3, 1) := by decide +kernel
theorem d_md_rowOf_18 : decode prog_7_method_18_code 18 = .ok (.imul, 1) := by decide +kernel
theorem d_md_rowOf_19 : decode prog_7_method_18_code 19 = .ok (.ishl, 1) := by decide +kernel
theorem d_md_rowOf_20 : decode prog_7_method_18_code 20 = .ok (.ior, 1) := by decide +kernel
theorem d_md_rowOf_21 : decode prog_7_method_18_code 21 = .ok (.istore_n 2, 1) := by decide +kernel
theorem d_md_rowOf_22 : decode prog_7_method_18_code 22 = .ok (.iinc 3 1, 3) := by decide +kernel
theorem d_md_rowOf_25 : decode prog_7_method_18_code 25 = .ok (.goto (-21), 3) := by decide +kernel
theorem d_md_rowOf_28 : decode prog_7_method_18_code 28 = .ok (.iload_n 2, 1) := by decide +kernel
theorem d_md_rowOf_29 : decode prog_7_method_18_code 29 = .ok (.ireturn, 1) := by decide +kernel
theorem d_md_driveAll_0 : decode prog_7_method_19_code 0 = .ok (.iconst 0, 1) := by decide +kernel
theorem d_md_driveAll_1 : decode prog_7_method_19_code 1 = .ok (.istore_n 2, 1) := by decide +kernel
theorem d_md_driveAll_2 : decode prog_7_method_19_code 2 = .ok (.iload_n 2, 1) := by decide +kernel
theorem d_md_driveAll_3 : decode prog_7_method_19_code 3 = .ok (.sipush 128, 3) := by decide +kernel
theorem d_md_driveAll_6 : decode prog_7_method_19_code 6 = .ok (.if_icmp .ge 22, 3) := by decide +kernel
theorem d_md_driveAll_9 : decode prog_7_method_19_code 9 = .ok (.aload_n 0, 1) := by decide +kernel
theorem d_md_driveAll_10 : decode prog_7_method_19_code 10 = .ok (.getfield 51, 3) := by decide +kernel
theorem d_md_driveAll_13 : decode prog_7_method_19_code 13 = .ok (.sipush 128, 3) := by decide +kernel
theorem d_md_driveAll_16 : decode prog_7_method_19_code 16 = .ok (.iload_n 1, 1) := by decide +kernel
theorem d_md_driveAll_17 : decode prog_7_method_19_code 17 = .ok (.imul, 1) := by decide +kernel
theorem d_md_driveAll_18 : decode prog_7_method_19_code 18 = .ok (.iload_n 2, 1) := by decide +kernel
theorem d_md_driveAll_19 : decode prog_7_method_19_code 19 = .ok (.iadd, 1) := by decide +kernel
theorem d_md_driveAll_20 : decode prog_7_method_19_code 20 = .ok (.iconst (-1), 1) := by decide +kernel
theorem d_md_driveAll_21 : decode prog_7_method_19_code 21 = .ok (.iastore, 1) := by decide +kernel
theorem d_md_driveAll_22 : decode prog_7_method_19_code 22 = .ok (.iinc 2 1, 3) := by decide +kernel
theorem d_md_driveAll_25 : decode prog_7_method_19_code 25 = .ok (.goto (-23), 3) := by decide +kernel
theorem d_md_driveAll_28 : decode prog_7_method_19_code 28 = .ok (.iconst 0, 1) := by decide +kernel
theorem d_md_driveAll_29 : decode prog_7_method_19_code 29 = .ok (.istore_n 2, 1) := by decide +kernel
theorem d_md_driveAll_30 : decode prog_7_method_19_code 30 = .ok (.iconst 0, 1) := by decide +kernel
theorem d_md_driveAll_31 : decode prog_7_method_19_code 31 = .ok (.istore_n 3, 1) := by decide +kernel
theorem d_md_driveAll_32 : decode prog_7_method_19_code 32 = .ok (.iload_n 2, 1) := by decide +kernel
theorem d_md_driveAll_33 : decode prog_7_method_19_code 33 = .ok (.ifCond .lt 79, 3) := by decide +kernel
theorem d_md_driveAll_36 : decode prog_7_method_19_code 36 = .ok (.iload_n 3, 1) := by decide +kernel
theorem d_md_driveAll_37 : decode prog_7_method_19_code 37 = .ok (.aload_n 0, 1) := by decide +kernel
theorem d_md_driveAll_38 : decode prog_7_method_19_code 38 = .ok (.getfield 78, 3) := by decide +kernel
theorem d_md_driveAll_41 : decode prog_7_method_19_code 41 = .ok (.if_icmp .ge 19, 3) := by decide +kernel
theorem d_md_driveAll_44 : decode prog_7_method_19_code 44 = .ok (.aload_n 0, 1) := by decide +kernel
theorem d_md_driveAll_45 : decode prog_7_method_19_code 45 = .ok (.iload_n 1, 1) := by decide +kernel
theorem d_md_driveAll_46 : decode prog_7_method_19_code 46 = .ok (.iload_n 2, 1) := by decide +kernel
theorem d_md_driveAll_47 : decode prog_7_method_19_code 47 = .ok (.iload_n 3, 1) := by decide +kernel
theorem d_md_driveAll_48 : decode prog_7_method_19_code 48 = .ok (.invokevirtual 117, 3) := by decide +kernel
theorem d_md_driveAll_51 : decode prog_7_method_19_code 51 = .ok (.ifCond .ne 9, 3) := by decide +kernel
theorem d_md_driveAll_54 : decode prog_7_method_19_code 54 = .ok (.iinc 3 1, 3) := by decide +kernel
theorem d_md_driveAll_57 : decode prog_7_method_19_code 57 = .ok (.goto (-21), 3) := by decide +kernel
theorem d_md_driveAll_60 : decode prog_7_method_19_code 60 = .ok (.iload_n 3, 1) := by decide +kernel
theorem d_md_driveAll_61 : decode prog_7_method_19_code 61 = .ok (.aload_n 0, 1) := by decide +kernel
theorem d_md_driveAll_62 : decode prog_7_method_19_code 62 = .ok (.getfield 78, 3) := by decide +kernel
theorem d_md_driveAll_65 : decode prog_7_method_19_code 65 = .ok (.if_icmp .ge 24, 3) := by decide +kernel
theorem d_md_driveAll_68 : decode prog_7_method_19_code 68 = .ok (.aload_n 0, 1) := by decide +kernel
theorem d_md_driveAll_69 : decode prog_7_method_19_code 69 = .ok (.getfield 57, 3) := by decide +kernel
theorem d_md_driveAll_72 : decode prog_7_method_19_code 72 = .ok (.iload_n 2, 1) := by decide +kernel
theorem d_md_driveAll_73 : decode prog_7_method_19_code 73 = .ok (.iload_n 3, 1) := by decide +kernel
theorem d_md_driveAll_74 : decode prog_7_method_19_code 74 = .ok (.iastore, 1) := by decide +kernel
theorem d_md_driveAll_75 : decode prog_7_method_19_code 75 = .ok (.iinc 2 1, 3) := by decide +kernel
theorem d_md_driveAll_78 : decode prog_7_method_19_code 78 = .ok (.aload_n 0, 1) := by decide +kernel
theorem d_md_driveAll_79 : decode prog_7_method_19_code 79 = .ok (.iload_n 1, 1) := by decide +kernel
theorem d_md_driveAll_80 : decode prog_7_method_19_code 80 = .ok (.iload_n 2, 1) := by decide +kernel
theorem d_md_driveAll_81 : decode prog_7_method_19_code 81 = .ok (.invokevirtual 121, 3) := by decide +kernel
theorem d_md_driveAll_84 : decode prog_7_method_19_code 84 = .ok (.iconst 0, 1) := by decide +kernel
theorem d_md_driveAll_85 : decode prog_7_method_19_code 85 = .ok (.istore_n 3, 1) := by decide +kernel
theorem d_md_driveAll_86 : decode prog_7_method_19_code 86 = .ok (.goto (-54), 3) := by decide +kernel
theorem d_md_driveAll_89 : decode prog_7_method_19_code 89 = .ok (.iinc 2 (-1), 3) := by decide +kernel
theorem d_md_driveAll_92 : decode prog_7_method_19_code 92 = .ok (.iload_n 2, 1) := by decide +kernel
theorem d_md_driveAll_93 : decode prog_7_method_19_code 93 = .ok (.ifCond .lt 14, 3) := by decide +kernel
theorem d_md_driveAll_96 : decode prog_7_method_19_code 96 = .ok (.aload_n 0, 1) := by decide +kernel
theorem d_md_driveAll_97 : decode prog_7_method_19_code 97 = .ok (.getfield 57, 3) := by decide +kernel
theorem d_md_driveAll_100 : decode prog_7_method_19_code 100 = .ok (.iload_n 2, 1) := by decide +kernel
theorem d_md_driveAll_101 : decode prog_7_method_19_code 101 = .ok (.iaload, 1) := by decide +kernel
theorem d_md_driveAll_102 : decode prog_7_method_19_code 102 = .ok (.iconst 1, 1) := by decide +kernel
theorem d_md_driveAll_103 : decode prog_7_method_19_code 103 = .ok (.iadd, 1) := by decide +kernel
theorem d_md_driveAll_104 : decode prog_7_method_19_code 104 = .ok (.goto 4, 3) := by decide +kernel
theorem d_md_driveAll_107 : decode prog_7_method_19_code 107 = .ok (.iconst 0, 1) := by decide +kernel
theorem d_md_driveAll_108 : decode prog_7_method_19_code 108 = .ok (.istore_n 3, 1) := by decide +kernel
theorem d_md_driveAll_109 : decode prog_7_method_19_code 109 = .ok (.goto (-77), 3) := by decide +kernel
theorem d_md_driveAll_112 : decode prog_7_method_19_code 112 = .ok (.return_, 1) := by decide +kernel
theorem d_md_keep_0 : decode prog_7_method_20_code 0 = .ok (.aload_n 0, 1) := by decide +kernel
theorem d_md_keep_1 : decode prog_7_method_20_code 1 = .ok (.iload_n 1, 1) := by decide +kernel
theorem d_md_keep_2 : decode prog_7_method_20_code 2 = .ok (.iload_n 2, 1) := by decide +kernel
theorem d_md_keep_3 : decode prog_7_method_20_code 3 = .ok (.invokevirtual 125, 3) := by decide +kernel
theorem d_md_keep_6 : decode prog_7_method_20_code 6 = .ok (.istore_n 3, 1) := by decide +kernel
theorem d_md_keep_7 : decode prog_7_method_20_code 7 = .ok (.sipush 128, 3) := by decide +kernel
theorem d_md_keep_10 : decode prog_7_method_20_code 10 = .ok (.iload_n 1, 1) := by decide +kernel
theorem d_md_keep_11 : decode prog_7_method_20_code 11 = .ok (.imul, 1) := by decide +kernel
theorem d_md_keep_12 : decode prog_7_method_20_code 12 = .ok (.aload_n 0, 1) := by decide +kernel
theorem d_md_keep_13 : decode prog_7_method_20_code 13 = .ok (.iload_n 2, 1) := by decide +kernel
theorem d_md_keep_14 : decode prog_7_method_20_code 14 = .ok (.invokevirtual 129, 3) := by decide +kernel
theorem d_md_keep_17 : decode prog_7_method_20_code 17 = .ok (.iadd, 1) := by decide +kernel
theorem d_md_keep_18 : decode prog_7_method_20_code 18 = .ok (.istore 4, 2) := by decide +kernel
theorem d_md_keep_20 : decode prog_7_method_20_code 20 = .ok (.iload_n 3, 1) := by decide +kernel
theorem d_md_keep_21 : decode prog_7_method_20_code 21 = .ok (.ifCond .lt 44, 3) := by decide +kernel
theorem d_md_keep_24 : decode prog_7_method_20_code 24 = .ok (.aload_n 0, 1) := by decide +kernel
theorem d_md_keep_25 : decode prog_7_method_20_code 25 = .ok (.getfield 51, 3) := by decide +kernel
theorem d_md_keep_28 : decode prog_7_method_20_code 28 = .ok (.iload 4, 2) := by decide +kernel
theorem d_md_keep_30 : decode prog_7_method_20_code 30 = .ok (.iaload, 1) := by decide +kernel
theorem d_md_keep_31 : decode prog_7_method_20_code 31 = .ok (.ifCond .lt 14, 3) := by decide +kernel
theorem d_md_keep_34 : decode prog_7_method_20_code 34 = .ok (.iload_n 3, 1) := by decide +kernel
theorem d_md_keep_35 : decode prog_7_method_20_code 35 = .ok (.aload_n 0, 1) := by decide +kernel
theorem d_md_keep_36 : decode prog_7_method_20_code 36 = .ok (.getfield 51, 3) := by decide +kernel
theorem d_md_keep_39 : decode prog_7_method_20_code 39 = .ok (.iload 4, 2) := by decide +kernel
theorem d_md_keep_41 : decode prog_7_method_20_code 41 = .ok (.iaload, 1) := by decide +kernel
theorem d_md_keep_42 : decode prog_7_method_20_code 42 = .ok (.if_icmp .ge 23, 3) := by decide +kernel
theorem d_md_keep_45 : decode prog_7_method_20_code 45 = .ok (.aload_n 0, 1) := by decide +kernel
theorem d_md_keep_46 : decode prog_7_method_20_code 46 = .ok (.getfield 51, 3) := by decide +kernel
theorem d_md_keep_49 : decode prog_7_method_20_code 49 = .ok (.iload 4, 2) := by decide +kernel
theorem d_md_keep_51 : decode prog_7_method_20_code 51 = .ok (.iload_n 3, 1) := by decide +kernel
theorem d_md_keep_52 : decode prog_7_method_20_code 52 = .ok (.iastore, 1) := by decide +kernel
theorem d_md_keep_53 : decode prog_7_method_20_code 53 = .ok (.aload_n 0, 1) := by decide +kernel
theorem d_md_keep_54 : decode prog_7_method_20_code 54 = .ok (.getfield 54, 3) := by decide +kernel
theorem d_md_keep_57 : decode prog_7_method_20_code 57 = .ok (.iload 4, 2) := by decide +kernel
theorem d_md_keep_59 : decode prog_7_method_20_code 59 = .ok (.aload_n 0, 1) := by decide +kernel
theorem d_md_keep_60 : decode prog_7_method_20_code 60 = .ok (.iload_n 2, 1) := by decide +kernel
theorem d_md_keep_61 : decode prog_7_method_20_code 61 = .ok (.invokevirtual 133, 3) := by decide +kernel
theorem d_md_keep_64 : decode prog_7_method_20_code 64 = .ok (.iastore, 1) := by decide +kernel
theorem d_md_keep_65 : decode prog_7_method_20_code 65 = .ok (.return_, 1) := by decide +kernel
theorem d_md_digit_0 : decode prog_7_method_21_code 0 = .ok (.iload_n 0, 1) := by decide +kernel
theorem d_md_digit_1 : decode prog_7_method_21_code 1 = .ok (.iconst 2, 1) := by decide +kernel
theorem d_md_digit_2 : decode prog_7_method_21_code 2 = .ok (.bipush 6, 2) := by decide +kernel
theorem d_md_digit_4 : decode prog_7_method_21_code 4 = .ok (.iload_n 1, 1) := by decide +kernel
theorem d_md_digit_5 : decode prog_7_method_21_code 5 = .ok (.isub, 1) := by decide +kernel
theorem d_md_digit_6 : decode prog_7_method_21_code 6 = .ok (.imul, 1) := by decide +kernel
theorem d_md_digit_7 : decode prog_7_method_21_code 7 = .ok (.ishr, 1) := by decide +kernel
theorem d_md_digit_8 : decode prog_7_method_21_code 8 = .ok (.iconst 3, 1) := by decide +kernel
theorem d_md_digit_9 : decode prog_7_method_21_code 9 = .ok (.iand, 1) := by decide +kernel
theorem d_md_digit_10 : decode prog_7_method_21_code 10 = .ok (.ireturn, 1) := by decide +kernel
theorem d_md_setIn_0 : decode prog_7_method_22_code 0 = .ok (.iconst 0, 1) := by decide +kernel
