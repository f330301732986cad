theorem d_md_begun_5 : decode prog_7_method_30_code 5 = .ok (.aload_n 0, 1) := by decide +kernel
theorem d_md_begun_6 : decode prog_7_method_30_code 6 = .ok (.getfield 163, 3) := by decide +kernel
theorem d_md_begun_9 : decode prog_7_method_30_code 9 = .ok (.if_icmp .ge 12, 3) := by decide +kernel
theorem d_md_begun_12 : decode prog_7_method_30_code 12 = .ok (.aload_n 0, 1) := by decide +kernel
theorem d_md_begun_13 : decode prog_7_method_30_code 13 = .ok (.getfield 63, 3) := by decide +kernel
theorem d_md_begun_16 : decode prog_7_method_30_code 16 = .ok (.iload_n 1, 1) := by decide +kernel
theorem d_md_begun_17 : decode prog_7_method_30_code 17 = .ok (.iaload, 1) := by decide +kernel
theorem d_md_begun_18 : decode prog_7_method_30_code 18 = .ok (.goto 4, 3) := by decide +kernel
theorem d_md_begun_21 : decode prog_7_method_30_code 21 = .ok (.iconst (-1), 1) := by decide +kernel
theorem d_md_begun_22 : decode prog_7_method_30_code 22 = .ok (.ireturn, 1) := by decide +kernel
theorem d_md_back_0 : decode prog_7_method_31_code 0 = .ok (.iload_n 1, 1) := by decide +kernel
theorem d_md_back_1 : decode prog_7_method_31_code 1 = .ok (.ifCond .lt 20, 3) := by decide +kernel
theorem d_md_back_4 : decode prog_7_method_31_code 4 = .ok (.iload_n 1, 1) := by decide +kernel
theorem d_md_back_5 : decode prog_7_method_31_code 5 = .ok (.aload_n 0, 1) := by decide +kernel
theorem d_md_back_6 : decode prog_7_method_31_code 6 = .ok (.getfield 166, 3) := by decide +kernel
theorem d_md_back_9 : decode prog_7_method_31_code 9 = .ok (.if_icmp .ge 12, 3) := by decide +kernel
theorem d_md_back_12 : decode prog_7_method_31_code 12 = .ok (.aload_n 0, 1) := by decide +kernel
theorem d_md_back_13 : decode prog_7_method_31_code 13 = .ok (.getfield 72, 3) := by decide +kernel
theorem d_md_back_16 : decode prog_7_method_31_code 16 = .ok (.iload_n 1, 1) := by decide +kernel
theorem d_md_back_17 : decode prog_7_method_31_code 17 = .ok (.iaload, 1) := by decide +kernel
theorem d_md_back_18 : decode prog_7_method_31_code 18 = .ok (.goto 4, 3) := by decide +kernel
theorem d_md_back_21 : decode prog_7_method_31_code 21 = .ok (.iconst (-1), 1) := by decide +kernel
theorem d_md_back_22 : decode prog_7_method_31_code 22 = .ok (.ireturn, 1) := by decide +kernel
theorem d_md_saved_0 : decode prog_7_method_32_code 0 = .ok (.iload_n 1, 1) := by decide +kernel
theorem d_md_saved_1 : decode prog_7_method_32_code 1 = .ok (.ifCond .lt 20, 3) := by decide +kernel
theorem d_md_saved_4 : decode prog_7_method_32_code 4 = .ok (.iload_n 1, 1) := by decide +kernel
theorem d_md_saved_5 : decode prog_7_method_32_code 5 = .ok (.aload_n 0, 1) := by decide +kernel
theorem d_md_saved_6 : decode prog_7_method_32_code 6 = .ok (.getfield 166, 3) := by decide +kernel
theorem d_md_saved_9 : decode prog_7_method_32_code 9 = .ok (.if_icmp .ge 12, 3) := by decide +kernel
theorem d_md_saved_12 : decode prog_7_method_32_code 12 = .ok (.aload_n 0, 1) := by decide +kernel
theorem d_md_saved_13 : decode prog_7_method_32_code 13 = .ok (.getfield 75, 3) := by decide +kernel
theorem d_md_saved_16 : decode prog_7_method_32_code 16 = .ok (.iload_n 1, 1) := by decide +kernel
theorem d_md_saved_17 : decode prog_7_method_32_code 17 = .ok (.laload, 1) := by decide +kernel
theorem d_md_saved_18 : decode prog_7_method_32_code 18 = .ok (.goto 6, 3) := by decide +kernel
theorem d_md_saved_21 : decode prog_7_method_32_code 21 = .ok (.ldc2_w 139, 3) := by decide +kernel
theorem d_md_saved_24 : decode prog_7_method_32_code 24 = .ok (.lreturn, 1) := by decide +kernel
theorem d_fd_init_0 : decode prog_2_method_1_code 0 = .ok (.aload_n 0, 1) := by decide +kernel
theorem d_fd_init_1 : decode prog_2_method_1_code 1 = .ok (.invokespecial 3, 3) := by decide +kernel
theorem d_fd_init_4 : decode prog_2_method_1_code 4 = .ok (.aload_n 0, 1) := by decide +kernel
theorem d_fd_init_5 : decode prog_2_method_1_code 5 = .ok (.ldc2_w 9, 3) := by decide +kernel
theorem d_fd_init_8 : decode prog_2_method_1_code 8 = .ok (.putfield 11, 3) := by decide +kernel
theorem d_fd_init_11 : decode prog_2_method_1_code 11 = .ok (.aload_n 0, 1) := by decide +kernel
theorem d_fd_init_12 : decode prog_2_method_1_code 12 = .ok (.bipush 7, 2) := by decide +kernel
theorem d_fd_init_14 : decode prog_2_method_1_code 14 = .ok (.newarray .int, 2) := by decide +kernel
theorem d_fd_init_16 : decode prog_2_method_1_code 16 = .ok (.putfield 17, 3) := by decide +kernel
theorem d_fd_init_19 : decode prog_2_method_1_code 19 = .ok (.aload_n 0, 1) := by decide +kernel
theorem d_fd_init_20 : decode prog_2_method_1_code 20 = .ok (.bipush 7, 2) := by decide +kernel
theorem d_fd_init_22 : decode prog_2_method_1_code 22 = .ok (.newarray .int, 2) := by decide +kernel
theorem d_fd_init_24 : decode prog_2_method_1_code 24 = .ok (.putfield 21, 3) := by decide +kernel
theorem d_fd_init_27 : decode prog_2_method_1_code 27 = .ok (.aload_n 0, 1) := by decide +kernel
theorem d_fd_init_28 : decode prog_2_method_1_code 28 = .ok (.bipush 21, 2) := by decide +kernel
theorem d_fd_init_30 : decode prog_2_method_1_code 30 = .ok (.newarray .int, 2) := by decide +kernel
theorem d_fd_init_32 : decode prog_2_method_1_code 32 = .ok (.putfield 24, 3) := by decide +kernel
theorem d_fd_init_35 : decode prog_2_method_1_code 35 = .ok (.aload_n 0, 1) := by decide +kernel
theorem d_fd_init_36 : decode prog_2_method_1_code 36 = .ok (.iconst 3, 1) := by decide +kernel
theorem d_fd_init_37 : decode prog_2_method_1_code 37 = .ok (.newarray .int, 2) := by decide +kernel
theorem d_fd_init_39 : decode prog_2_method_1_code 39 = .ok (.putfield 27, 3) := by decide +kernel
theorem d_fd_init_42 : decode prog_2_method_1_code 42 = .ok (.aload_n 0, 1) := by decide +kernel
theorem d_fd_init_43 : decode prog_2_method_1_code 43 = .ok (.iconst 3, 1) := by decide +kernel
theorem d_fd_init_44 : decode prog_2_method_1_code 44 = .ok (.newarray .int, 2) := by decide +kernel
theorem d_fd_init_46 : decode prog_2_method_1_code 46 = .ok (.putfield 30, 3) := by decide +kernel
theorem d_fd_init_49 : decode prog_2_method_1_code 49 = .ok (.aload_n 0, 1) := by decide +kernel
theorem d_fd_init_50 : decode prog_2_method_1_code 50 = .ok (.iconst 3, 1) := by decide +kernel
theorem d_fd_init_51 : decode prog_2_method_1_code 51 = .ok (.newarray .long, 2) := by decide +kernel
theorem d_fd_init_53 : decode prog_2_method_1_code 53 = .ok (.putfield 33, 3) := by decide +kernel
theorem d_fd_init_56 : decode prog_2_method_1_code 56 = .ok (.return_, 1) := by decide +kernel
theorem d_fd_hasStop_0 : decode prog_2_method_2_code 0 = .ok (.iload_n 1, 1) := by decide +kernel
theorem d_fd_hasStop_1 : decode prog_2_method_2_code 1 = .ok (.ifCond .lt 15, 3) := by decide +kernel
theorem d_fd_hasStop_4 : decode prog_2_method_2_code 4 = .ok (.iload_n 1, 1) := by decide +kernel
theorem d_fd_hasStop_5 : decode prog_2_method_2_code 5 = .ok (.aload_n 0, 1) := by decide +kernel
theorem d_fd_hasStop_6 : decode prog_2_method_2_code 6 = .ok (.getfield 37, 3) := by decide +kernel
theorem d_fd_hasStop_9 : decode prog_2_method_2_code 9 = .ok (.if_icmp .ge 7, 3) := by decide +kernel
theorem d_fd_hasStop_12 : decode prog_2_method_2_code 12 = .ok (.iconst 1, 1) := by decide +kernel
theorem d_fd_hasStop_13 : decode prog_2_method_2_code 13 = .ok (.goto 4, 3) := by decide +kernel
theorem d_fd_hasStop_16 : decode prog_2_method_2_code 16 = .ok (.iconst 0, 1) := by decide +kernel
theorem d_fd_hasStop_17 : decode prog_2_method_2_code 17 = .ok (.ireturn, 1) := by decide +kernel
theorem d_fd_hasVehicle_0 : decode prog_2_method_3_code 0 = .ok (.iload_n 1, 1) := by decide +kernel
theorem d_fd_hasVehicle_1 : decode prog_2_method_3_code 1 = .ok (.ifCond .lt 15, 3) := by decide +kernel
theorem d_fd_hasVehicle_4 : decode prog_2_method_3_code 4 = .ok (.iload_n 1, 1) := by decide +kernel
theorem d_fd_hasVehicle_5 : decode prog_2_method_3_code 5 = .ok (.aload_n 0, 1) := by decide +kernel
theorem d_fd_hasVehicle_6 : decode prog_2_method_3_code 6 = .ok (.getfield 41, 3) := by decide +kernel
theorem d_fd_hasVehicle_9 : decode prog_2_method_3_code 9 = .ok (.if_icmp .ge 7, 3) := by decide +kernel
theorem d_fd_hasVehicle_12 : decode prog_2_method_3_code 12 = .ok (.iconst 1, 1) := by decide +kernel
theorem d_fd_hasVehicle_13 : decode prog_2_method_3_code 13 = .ok (.goto 4, 3) := by decide +kernel
theorem d_fd_hasVehicle_16 : decode prog_2_method_3_code 16 = .ok (.iconst 0, 1) := by decide +kernel
theorem d_fd_hasVehicle_17 : decode prog_2_method_3_code 17 = .ok (.ireturn, 1) := by decide +kernel
theorem d_fd_take_0 : decode prog_2_method_4_code 0 = .ok (.aload_n 0, 1) := by decide +kernel
theorem d_fd_take_1 : decode prog_2_method_4_code 1 = .ok (.aload_n 1, 1) := by decide +kernel
theorem d_fd_take_2 : decode prog_2_method_4_code 2 = .ok (.getfield 44, 3) := by decide +kernel
theorem d_fd_take_5 : decode prog_2_method_4_code 5 = .ok (.putfield 37, 3) := by decide +kernel
theorem d_fd_take_8 : decode prog_2_method_4_code 8 = .ok (.aload_n 0, 1) := by decide +kernel
theorem d_fd_take_9 : decode prog_2_method_4_code 9 = .ok (.aload_n 1, 1) := by decide +kernel
theorem d_fd_take_10 : decode prog_2_method_4_code 10 = .ok (.getfield 49, 3) := by decide +kernel
theorem d_fd_take_13 : decode prog_2_method_4_code 13 = .ok (.putfield 41, 3) := by decide +kernel
theorem d_fd_take_16 : decode prog_2_method_4_code 16 = .ok (.aload_n 0, 1) := by decide +kernel
theorem d_fd_take_17 : decode prog_2_method_4_code 17 = .ok (.lload_n 2, 1) := by decide +kernel
theorem d_fd_take_18 : decode prog_2_method_4_code 18 = .ok (.invokestatic 51, 3) := by decide +kernel
theorem d_fd_take_21 : decode prog_2_method_4_code 21 = .ok (.putfield 11, 3) := by decide +kernel
theorem d_fd_take_24 : decode prog_2_method_4_code 24 = .ok (.iconst 0, 1) := by decide +kernel
theorem d_fd_take_25 : decode prog_2_method_4_code 25 = .ok (.istore 4, 2) := by decide +kernel
theorem d_fd_take_27 : decode prog_2_method_4_code 27 = .ok (.iload 4, 2) := by decide +kernel
theorem d_fd_take_29 : decode prog_2_method_4_code 29 = .ok (.aload_n 0, 1) := by decide +kernel
theorem d_fd_take_30 : decode prog_2_method_4_code 30 = .ok (.getfield 37, 3) := by decide +kernel
theorem d_fd_take_33 : decode prog_2_method_4_code 33 = .ok (.if_icmp .ge 22, 3) := by decide +kernel
theorem d_fd_take_36 : decode prog_2_method_4_code 36 = .ok (.aload_n 0, 1) := by decide +kernel
theorem d_fd_take_37 : decode prog_2_method_4_code 37 = .ok (.getfield 17, 3) := by decide +kernel
theorem d_fd_take_40 : decode prog_2_method_4_code 40 = .ok (.iload 4, 2) := by decide +kernel
theorem d_fd_take_42 : decode prog_2_method_4_code 42 = .ok (.lload_n 2, 1) := by decide +kernel
theorem d_fd_take_43 : decode prog_2_method_4_code 43 = .ok (.iload 4, 2) := by decide +kernel
theorem d_fd_take_45 : decode prog_2_method_4_code 45 = .ok (.invokestatic 55, 3) := by decide +kernel
theorem d_fd_take_48 : decode prog_2_method_4_code 48 = .ok (.iastore, 1) := by decide +kernel
theorem d_fd_take_49 : decode prog_2_method_4_code 49 = .ok (.iinc 4 1, 3) := by decide +kernel
theorem d_fd_take_52 : decode prog_2_method_4_code 52 = .ok (.goto (-25), 3) := by decide +kernel
theorem d_fd_take_55 : decode prog_2_method_4_code 55 = .ok (.aload_n 0, 1) := by decide +kernel
theorem d_fd_take_56 : decode prog_2_method_4_code 56 = .ok (.getfield 21, 3) := by decide +kernel
theorem d_fd_take_59 : decode prog_2_method_4_code 59 = .ok (.iconst (-1), 1) := by decide +kernel
theorem d_fd_take_60 : decode prog_2_method_4_code 60 = .ok (.invokestatic 59, 3) := by decide +kernel
theorem d_fd_take_63 : decode prog_2_method_4_code 63 = .ok (.aload_n 0, 1) := by decide +kernel
theorem d_fd_take_64 : decode prog_2_method_4_code 64 = .ok (.getfield 27, 3) := by decide +kernel
theorem d_fd_take_67 : decode prog_2_method_4_code 67 = .ok (.iconst 0, 1) := by decide +kernel
theorem d_fd_take_68 : decode prog_2_method_4_code 68 = .ok (.invokestatic 59, 3) := by decide +kernel
theorem d_fd_take_71 : decode prog_2_method_4_code 71 = .ok (.aload_n 0, 1) := by decide +kernel
theorem d_fd_take_72 : decode prog_2_method_4_code 72 = .ok (.getfield 30, 3) := by decide +kernel
theorem d_fd_take_75 : decode prog_2_method_4_code 75 = .ok (.iconst (-1), 1) := by decide +kernel
theorem d_fd_take_76 : decode prog_2_method_4_code 76 = .ok (.invokestatic 59, 3) := by decide +kernel
theorem d_fd_take_79 : decode prog_2_method_4_code 79 = .ok (.return_, 1) := by decide +kernel
theorem d_fd_note_0 : decode prog_2_method_5_code 0 = .ok (.aload_n 0, 1) := by decide +kernel
theorem d_fd_note_1 : decode prog_2_method_5_code 1 = .ok (.getfield 27, 3) := by decide +kernel
theorem d_fd_note_4 : decode prog_2_method_5_code 4 = .ok (.iload_n 1, 1) := by decide +kernel
theorem d_fd_note_5 : decode prog_2_method_5_code 5 = .ok (.iaload, 1) := by decide +kernel
theorem d_fd_note_6 : decode prog_2_method_5_code 6 = .ok (.istore 4, 2) := by decide +kernel
theorem d_fd_note_8 : decode prog_2_method_5_code 8 = .ok (.iload 4, 2) := by decide +kernel
theorem d_fd_note_10 : decode prog_2_method_5_code 10 = .ok (.bipush 7, 2) := by decide +kernel
theorem d_fd_note_12 : decode prog_2_method_5_code 12 = .ok (.if_icmp .lt 4, 3) := by decide +kernel
theorem d_fd_note_15 : decode prog_2_method_5_code 15 = .ok (.return_, 1) := by decide +kernel
theorem d_fd_note_16 : decode prog_2_method_5_code 16 = .ok (.aload_n 0, 1) := by decide +kernel
theorem d_fd_note_17 : decode prog_2_method_5_code 17 = .ok (.getfield 24, 3) := by decide +kernel
theorem d_fd_note_20 : decode prog_2_method_5_code 20 = .ok (.iload_n 1, 1) := by decide +kernel
theorem d_fd_note_21 : decode prog_2_method_5_code 21 = .ok (.bipush 7, 2) := by decide +kernel
theorem d_fd_note_23 : decode prog_2_method_5_code 23 = .ok (.imul, 1) := by decide +kernel
theorem d_fd_note_24 : decode prog_2_method_5_code 24 = .ok (.iload 4, 2) := by decide +kernel
theorem d_fd_note_26 : decode prog_2_method_5_code 26 = .ok (.iadd, 1) := by decide +kernel
theorem d_fd_note_27 : decode prog_2_method_5_code 27 = .ok (.iload_n 2, 1) := by decide +kernel
theorem d_fd_note_28 : decode prog_2_method_5_code 28 = .ok (.iastore, 1) := by decide +kernel
theorem d_fd_note_29 : decode prog_2_method_5_code 29 = .ok (.aload_n 0, 1) := by decide +kernel
theorem d_fd_note_30 : decode prog_2_method_5_code 30 = .ok (.getfield 27, 3) := by decide +kernel
theorem d_fd_note_33 : decode prog_2_method_5_code 33 = .ok (.iload_n 1, 1) := by decide +kernel
theorem d_fd_note_34 : decode prog_2_method_5_code 34 = .ok (.iload 4, 2) := by decide +kernel
theorem d_fd_note_36 : decode prog_2_method_5_code 36 = .ok (.iconst 1, 1) := by decide +kernel
theorem d_fd_note_37 : decode prog_2_method_5_code 37 = .ok (.iadd, 1) := by decide +kernel
theorem d_fd_note_38 : decode prog_2_method_5_code 38 = .ok (.iastore, 1) := by decide +kernel
theorem d_fd_note_39 : decode prog_2_method_5_code 39 = .ok (.aload_n 0, 1) := by decide +kernel
theorem d_fd_note_40 : decode prog_2_method_5_code 40 = .ok (.getfield 21, 3) := by decide +kernel
theorem d_fd_note_43 : decode prog_2_method_5_code 43 = .ok (.iload_n 2, 1) := by decide +kernel
theorem d_fd_note_44 : decode prog_2_method_5_code 44 = .ok (.iload_n 3, 1) := by decide +kernel
theorem d_fd_note_45 : decode prog_2_method_5_code 45 = .ok (.iastore, 1) := by decide +kernel
theorem d_fd_note_46 : decode prog_2_method_5_code 46 = .ok (.return_, 1) := by decide +kernel
theorem d_pl_init_0 : decode prog_3_method_1_code 0 = .ok (.aload_n 0, 1) := by decide +kernel
theorem d_pl_init_1 : decode prog_3_method_1_code 1 = .ok (.invokespecial 3, 3) := by decide +kernel
theorem d_pl_init_4 : decode prog_3_method_1_code 4 = .ok (.aload_n 0, 1) := by decide +kernel
theorem d_pl_init_5 : decode prog_3_method_1_code 5 = .ok (.aload_n 1, 1) := by decide +kernel
theorem d_pl_init_6 : decode prog_3_method_1_code 6 = .ok (.putfield 9, 3) := by decide +kernel
theorem d_pl_init_9 : decode prog_3_method_1_code 9 = .ok (.aload_n 0, 1) := by decide +kernel
theorem d_pl_init_10 : decode prog_3_method_1_code 10 = .ok (.aload_n 2, 1) := by decide +kernel
theorem d_pl_init_11 : decode prog_3_method_1_code 11 = .ok (.putfield 15, 3) := by decide +kernel
theorem d_pl_init_14 : decode prog_3_method_1_code 14 = .ok (.aload_n 0, 1) := by decide +kernel
theorem d_pl_init_15 : decode prog_3_method_1_code 15 = .ok (.sipush 384, 3) := by decide +kernel
theorem d_pl_init_18 : decode prog_3_method_1_code 18 = .ok (.newarray .long, 2) := by decide +kernel
theorem d_pl_init_20 : decode prog_3_method_1_code 20 = .ok (.putfield 19, 3) := by decide +kernel
theorem d_pl_init_23 : decode prog_3_method_1_code 23 = .ok (.aload_n 0, 1) := by decide +kernel
theorem d_pl_init_24 : decode prog_3_method_1_code 24 = .ok (.sipush 128, 3) := by decide +kernel
theorem d_pl_init_27 : decode prog_3_method_1_code 27 = .ok (.newarray .long, 2) := by decide +kernel
theorem d_pl_init_29 : decode prog_3_method_1_code 29 = .ok (.putfield 23, 3) := by decide +kernel
theorem d_pl_init_32 : decode prog_3_method_1_code 32 = .ok (.aload_n 0, 1) := by decide +kernel
theorem d_pl_init_33 : decode prog_3_method_1_code 33 = .ok (.sipush 128, 3) := by decide +kernel
theorem d_pl_init_36 : decode prog_3_method_1_code 36 = .ok (.newarray .long, 2) := by decide +kernel
theorem d_pl_init_38 : decode prog_3_method_1_code 38 = .ok (.putfield 26, 3) := by decide +kernel
theorem d_pl_init_41 : decode prog_3_method_1_code 41 = .ok (.return_, 1) := by decide +kernel
theorem d_pl_findPrices_0 : decode prog_3_method_2_code 0 = .ok (.iconst 1, 1) := by decide +kernel
theorem d_pl_findPrices_1 : decode prog_3_method_2_code 1 = .ok (.istore_n 1, 1) := by decide +kernel
theorem d_pl_findPrices_2 : decode prog_3_method_2_code 2 = .ok (.iload_n 1, 1) := by decide +kernel
theorem d_pl_findPrices_3 : decode prog_3_method_2_code 3 = .ok (.iconst 1, 1) := by decide +kernel
theorem d_pl_findPrices_4 : decode prog_3_method_2_code 4 = .ok (.aload_n 0, 1) := by decide +kernel
theorem d_pl_findPrices_5 : decode prog_3_method_2_code 5 = .ok (.getfield 9, 3) := by decide +kernel
theorem d_pl_findPrices_8 : decode prog_3_method_2_code 8 = .ok (.getfield 29, 3) := by decide +kernel
theorem d_pl_findPrices_11 : decode prog_3_method_2_code 11 = .ok (.ishl, 1) := by decide +kernel
theorem d_pl_findPrices_12 : decode prog_3_method_2_code 12 = .ok (.if_icmp .ge 77, 3) := by decide +kernel
theorem d_pl_findPrices_15 : decode prog_3_method_2_code 15 = .ok (.aload_n 0, 1) := by decide +kernel
theorem d_pl_findPrices_16 : decode prog_3_method_2_code 16 = .ok (.iload_n 1, 1) := by decide +kernel
theorem d_pl_findPrices_17 : decode prog_3_method_2_code 17 = .ok (.invokevirtual 35, 3) := by decide +kernel
theorem d_pl_findPrices_20 : decode prog_3_method_2_code 20 = .ok (.lstore_n 2, 1) := by decide +kernel
theorem d_pl_findPrices_21 : decode prog_3_method_2_code 21 = .ok (.aload_n 0, 1) := by decide +kernel
theorem d_pl_findPrices_22 : decode prog_3_method_2_code 22 = .ok (.getfield 23, 3) := by decide +kernel
theorem d_pl_findPrices_25 : decode prog_3_method_2_code 25 = .ok (.iload_n 1, 1) := by decide +kernel
theorem d_pl_findPrices_26 : decode prog_3_method_2_code 26 = .ok (.aload_n 0, 1) := by decide +kernel
theorem d_pl_findPrices_27 : decode prog_3_method_2_code 27 = .ok (.iload_n 1, 1) := by decide +kernel
theorem d_pl_findPrices_28 : decode prog_3_method_2_code 28 = .ok (.invokevirtual 39, 3) := by decide +kernel
theorem d_pl_findPrices_31 : decode prog_3_method_2_code 31 = .ok (.bipush 14, 2) := by decide +kernel
theorem d_pl_findPrices_33 : decode prog_3_method_2_code 33 = .ok (.lshl, 1) := by decide +kernel
theorem d_pl_findPrices_34 : decode prog_3_method_2_code 34 = .ok (.ldc2_w 42, 3) := by decide +kernel
theorem d_pl_findPrices_37 : decode prog_3_method_2_code 37 = .ok (.lload_n 2, 1) := by decide +kernel
theorem d_pl_findPrices_38 : decode prog_3_method_2_code 38 = .ok (.lmul, 1) := by decide +kernel
theorem d_pl_findPrices_39 : decode prog_3_method_2_code 39 = .ok (.ladd, 1) := by decide +kernel
theorem d_pl_findPrices_40 : decode prog_3_method_2_code 40 = .ok (.lastore, 1) := by decide +kernel
theorem d_pl_findPrices_41 : decode prog_3_method_2_code 41 = .ok (.iconst 0, 1) := by decide +kernel
theorem d_pl_findPrices_42 : decode prog_3_method_2_code 42 = .ok (.istore 4, 2) := by decide +kernel
theorem d_pl_findPrices_44 : decode prog_3_method_2_code 44 = .ok (.iload 4, 2) := by decide +kernel
theorem d_pl_findPrices_46 : decode prog_3_method_2_code 46 = .ok (.aload_n 0, 1) := by decide +kernel
theorem d_pl_findPrices_47 : decode prog_3_method_2_code 47 = .ok (.getfield 9, 3) := by decide +kernel
theorem d_pl_findPrices_50 : decode prog_3_method_2_code 50 = .ok (.getfield 44, 3) := by decide +kernel
theorem d_pl_findPrices_53 : decode prog_3_method_2_code 53 = .ok (.if_icmp .ge 30, 3) := by decide +kernel
theorem d_pl_findPrices_56 : decode prog_3_method_2_code 56 = .ok (.aload_n 0, 1) := by decide +kernel
theorem d_pl_findPrices_57 : decode prog_3_method_2_code 57 = .ok (.getfield 19, 3) := by decide +kernel
theorem d_pl_findPrices_60 : decode prog_3_method_2_code 60 = .ok (.iload 4, 2) := by decide +kernel
theorem d_pl_findPrices_62 : decode prog_3_method_2_code 62 = .ok (.sipush 128, 3) := by decide +kernel
theorem d_pl_findPrices_65 : decode prog_3_method_2_code 65 = .ok (.imul, 1) := by decide +kernel
theorem d_pl_findPrices_66 : decode prog_3_method_2_code 66 = .ok (.iload_n 1, 1) := by decide +kernel
theorem d_pl_findPrices_67 : decode prog_3_method_2_code 67 = .ok (.iadd, 1) := by decide +kernel
theorem d_pl_findPrices_68 : decode prog_3_method_2_code 68 = .ok (.aload_n 0, 1) := by decide +kernel
theorem d_pl_findPrices_69 : decode prog_3_method_2_code 69 = .ok (.iload 4, 2) := by decide +kernel
theorem d_pl_findPrices_71 : decode prog_3_method_2_code 71 = .ok (.iload_n 1, 1) := by decide +kernel
theorem d_pl_findPrices_72 : decode prog_3_method_2_code 72 = .ok (.lload_n 2, 1) := by decide +kernel
theorem d_pl_findPrices_73 : decode prog_3_method_2_code 73 = .ok (.invokevirtual 47, 3) := by decide +kernel
theorem d_pl_findPrices_76 : decode prog_3_method_2_code 76 = .ok (.lastore, 1) := by decide +kernel
theorem d_pl_findPrices_77 : decode prog_3_method_2_code 77 = .ok (.iinc 4 1, 3) := by decide +kernel
theorem d_pl_findPrices_80 : decode prog_3_method_2_code 80 = .ok (.goto (-36), 3) := by decide +kernel
theorem d_pl_findPrices_83 : decode prog_3_method_2_code 83 = .ok (.iinc 1 1, 3) := by decide +kernel
theorem d_pl_findPrices_86 : decode prog_3_method_2_code 86 = .ok (.goto (-84), 3) := by decide +kernel
theorem d_pl_findPrices_89 : decode prog_3_method_2_code 89 = .ok (.return_, 1) := by decide +kernel
theorem d_pl_findPrice_0 : decode prog_3_method_3_code 0 = .ok (.aload_n 0, 1) := by decide +kernel
theorem d_pl_findPrice_1 : decode prog_3_method_3_code 1 = .ok (.getfield 15, 3) := by decide +kernel
theorem d_pl_findPrice_4 : decode prog_3_method_3_code 4 = .ok (.iload_n 1, 1) := by decide +kernel
theorem d_pl_findPrice_5 : decode prog_3_method_3_code 5 = .ok (.iload_n 2, 1) := by decide +kernel
theorem d_pl_findPrice_6 : decode prog_3_method_3_code 6 = .ok (.invokevirtual 51, 3) := by decide +kernel
theorem d_pl_findPrice_9 : decode prog_3_method_3_code 9 = .ok (.istore 5, 2) := by decide +kernel
theorem d_pl_findPrice_11 : decode prog_3_method_3_code 11 = .ok (.iload 5, 2) := by decide +kernel
theorem d_pl_findPrice_13 : decode prog_3_method_3_code 13 = .ok (.ldc 57, 2) := by decide +kernel
theorem d_pl_findPrice_15 : decode prog_3_method_3_code 15 = .ok (.if_icmp .ne 7, 3) := by decide +kernel
theorem d_pl_findPrice_18 : decode prog_3_method_3_code 18 = .ok (.ldc2_w 58, 3) := by decide +kernel
theorem d_pl_findPrice_21 : decode prog_3_method_3_code 21 = .ok (.lreturn, 1) := by decide +kernel
theorem d_pl_findPrice_22 : decode prog_3_method_3_code 22 = .ok (.iload 5, 2) := by decide +kernel
theorem d_pl_findPrice_24 : decode prog_3_method_3_code 24 = .ok (.aload_n 0, 1) := by decide +kernel
theorem d_pl_findPrice_25 : decode prog_3_method_3_code 25 = .ok (.getfield 9, 3) := by decide +kernel
theorem d_pl_findPrice_28 : decode prog_3_method_3_code 28 = .ok (.getfield 60, 3) := by decide +kernel
theorem d_pl_findPrice_31 : decode prog_3_method_3_code 31 = .ok (.iload_n 1, 1) := by decide +kernel
theorem d_pl_findPrice_32 : decode prog_3_method_3_code 32 = .ok (.iaload, 1) := by decide +kernel
theorem d_pl_findPrice_33 : decode prog_3_method_3_code 33 = .ok (.isub, 1) := by decide +kernel
theorem d_pl_findPrice_34 : decode prog_3_method_3_code 34 = .ok (.i2l, 1) := by decide +kernel
theorem d_pl_findPrice_35 : decode prog_3_method_3_code 35 = .ok (.lstore 6, 2) := by decide +kernel
theorem d_pl_findPrice_37 : decode prog_3_method_3_code 37 = .ok (.aload_n 0, 1) := by decide +kernel
theorem d_pl_findPrice_38 : decode prog_3_method_3_code 38 = .ok (.getfield 9, 3) := by decide +kernel
theorem d_pl_findPrice_41 : decode prog_3_method_3_code 41 = .ok (.getfield 64, 3) := by decide +kernel
theorem d_pl_findPrice_44 : decode prog_3_method_3_code 44 = .ok (.iload_n 1, 1) := by decide +kernel
theorem d_pl_findPrice_45 : decode prog_3_method_3_code 45 = .ok (.iaload, 1) := by decide +kernel
theorem d_pl_findPrice_46 : decode prog_3_method_3_code 46 = .ok (.i2l, 1) := by decide +kernel
theorem d_pl_findPrice_47 : decode prog_3_method_3_code 47 = .ok (.lload 6, 2) := by decide +kernel
theorem d_pl_findPrice_49 : decode prog_3_method_3_code 49 = .ok (.lmul, 1) := by decide +kernel
theorem d_pl_findPrice_50 : decode prog_3_method_3_code 50 = .ok (.bipush 14, 2) := by decide +kernel
theorem d_pl_findPrice_52 : decode prog_3_method_3_code 52 = .ok (.lshl, 1) := by decide +kernel
theorem d_pl_findPrice_53 : decode prog_3_method_3_code 53 = .ok (.iload_n 1, 1) := by decide +kernel
theorem d_pl_findPrice_54 : decode prog_3_method_3_code 54 = .ok (.i2l, 1) := by decide +kernel
theorem d_pl_findPrice_55 : decode prog_3_method_3_code 55 = .ok (.lload_n 3, 1) := by decide +kernel
theorem d_pl_findPrice_56 : decode prog_3_method_3_code 56 = .ok (.lmul, 1) := by decide +kernel
theorem d_pl_findPrice_57 : decode prog_3_method_3_code 57 = .ok (.ladd, 1) := by decide +kernel
theorem d_pl_findPrice_58 : decode prog_3_method_3_code 58 = .ok (.lreturn, 1) := by decide +kernel
theorem d_pl_penaltiesOf_0 : decode prog_3_method_4_code 0 = .ok (.lconst 0, 1) := by decide +kernel
theorem d_pl_penaltiesOf_1 : decode prog_3_method_4_code 1 = .ok (.lstore_n 2, 1) := by decide +kernel
theorem d_pl_penaltiesOf_2 : decode prog_3_method_4_code 2 = .ok (.iconst 0, 1) := by decide +kernel
theorem d_pl_penaltiesOf_3 : decode prog_3_method_4_code 3 = .ok (.istore 4, 2) := by decide +kernel
theorem d_pl_penaltiesOf_5 : decode prog_3_method_4_code 5 = .ok (.iload 4, 2) := by decide +kernel
theorem d_pl_penaltiesOf_7 : decode prog_3_method_4_code 7 = .ok (.aload_n 0, 1) := by decide +kernel
theorem d_pl_penaltiesOf_8 : decode prog_3_method_4_code 8 = .ok (.getfield 9, 3) := by decide +kernel
theorem d_pl_penaltiesOf_11 : decode prog_3_method_4_code 11 = .ok (.getfield 29, 3) := by decide +kernel
theorem d_pl_penaltiesOf_14 : decode prog_3_method_4_code 14 = .ok (.if_icmp .ge 31, 3) := by decide +kernel
theorem d_pl_penaltiesOf_17 : decode prog_3_method_4_code 17 = .ok (.iload_n 1, 1) := by decide +kernel
theorem d_pl_penaltiesOf_18 : decode prog_3_method_4_code 18 = .ok (.iload 4, 2) := by decide +kernel
theorem d_pl_penaltiesOf_20 : decode prog_3_method_4_code 20 = .ok (.invokestatic 67, 3) := by decide +kernel
theorem d_pl_penaltiesOf_23 : decode prog_3_method_4_code 23 = .ok (.ifCond .eq 16, 3) := by decide +kernel
theorem d_pl_penaltiesOf_26 : decode prog_3_method_4_code 26 = .ok (.lload_n 2, 1) := by decide +kernel
theorem d_pl_penaltiesOf_27 : decode prog_3_method_4_code 27 = .ok (.aload_n 0, 1) := by decide +kernel
theorem d_pl_penaltiesOf_28 : decode prog_3_method_4_code 28 = .ok (.getfield 9, 3) := by decide +kernel
theorem d_pl_penaltiesOf_31 : decode prog_3_method_4_code 31 = .ok (.getfield 71, 3) := by decide +kernel
theorem d_pl_penaltiesOf_34 : decode prog_3_method_4_code 34 = .ok (.iload 4, 2) := by decide +kernel
theorem d_pl_penaltiesOf_36 : decode prog_3_method_4_code 36 = .ok (.laload, 1) := by decide +kernel
theorem d_pl_penaltiesOf_37 : decode prog_3_method_4_code 37 = .ok (.ladd, 1) := by decide +kernel
theorem d_pl_penaltiesOf_38 : decode prog_3_method_4_code 38 = .ok (.lstore_n 2, 1) := by decide +kernel
theorem d_pl_penaltiesOf_39 : decode prog_3_method_4_code 39 = .ok (.iinc 4 1, 3) := by decide +kernel
theorem d_pl_penaltiesOf_42 : decode prog_3_method_4_code 42 = .ok (.goto (-37), 3) := by decide +kernel
theorem d_pl_penaltiesOf_45 : decode prog_3_method_4_code 45 = .ok (.lload_n 2, 1) := by decide +kernel
theorem d_pl_penaltiesOf_46 : decode prog_3_method_4_code 46 = .ok (.lreturn, 1) := by decide +kernel
theorem d_pl_codeOfOnes_0 : decode prog_3_method_5_code 0 = .ok (.lconst 0, 1) := by decide +kernel
theorem d_pl_codeOfOnes_1 : decode prog_3_method_5_code 1 = .ok (.lstore_n 2, 1) := by decide +kernel
theorem d_pl_codeOfOnes_2 : decode prog_3_method_5_code 2 = .ok (.iconst 0, 1) := by decide +kernel
theorem d_pl_codeOfOnes_3 : decode prog_3_method_5_code 3 = .ok (.istore 4, 2) := by decide +kernel
theorem d_pl_codeOfOnes_5 : decode prog_3_method_5_code 5 = .ok (.iload 4, 2) := by decide +kernel
theorem d_pl_codeOfOnes_7 : decode prog_3_method_5_code 7 = .ok (.aload_n 0, 1) := by decide +kernel
theorem d_pl_codeOfOnes_8 : decode prog_3_method_5_code 8 = .ok (.getfield 9, 3) := by decide +kernel
theorem d_pl_codeOfOnes_11 : decode prog_3_method_5_code 11 = .ok (.getfield 29, 3) := by decide +kernel
theorem d_pl_codeOfOnes_14 : decode prog_3_method_5_code 14 = .ok (.if_icmp .ge 28, 3) := by decide +kernel
theorem d_pl_codeOfOnes_17 : decode prog_3_method_5_code 17 = .ok (.iload_n 1, 1) := by decide +kernel
theorem d_pl_codeOfOnes_18 : decode prog_3_method_5_code 18 = .ok (.iload 4, 2) := by decide +kernel
theorem d_pl_codeOfOnes_20 : decode prog_3_method_5_code 20 = .ok (.invokestatic 67, 3) := by decide +kernel
theorem d_pl_codeOfOnes_23 : decode prog_3_method_5_code 23 = .ok (.ifCond .eq 13, 3) := by decide +kernel
theorem d_pl_codeOfOnes_26 : decode prog_3_method_5_code 26 = .ok (.lload_n 2, 1) := by decide +kernel
theorem d_pl_codeOfOnes_27 : decode prog_3_method_5_code 27 = .ok (.lconst 1, 1) := by decide +kernel
theorem d_pl_codeOfOnes_28 : decode prog_3_method_5_code 28 = .ok (.iload 4, 2) := by decide +kernel
theorem d_pl_codeOfOnes_30 : decode prog_3_method_5_code 30 = .ok (.invokestatic 74, 3) := by decide +kernel
theorem d_pl_codeOfOnes_33 : decode prog_3_method_5_code 33 = .ok (.lshl, 1) := by decide +kernel
theorem d_pl_codeOfOnes_34 : decode prog_3_method_5_code 34 = .ok (.ladd, 1) := by decide +kernel
theorem d_pl_codeOfOnes_35 : decode prog_3_method_5_code 35 = .ok (.lstore_n 2, 1) := by decide +kernel
theorem d_pl_codeOfOnes_36 : decode prog_3_method_5_code 36 = .ok (.iinc 4 1, 3) := by decide +kernel
theorem d_pl_codeOfOnes_39 : decode prog_3_method_5_code 39 = .ok (.goto (-34), 3) := by decide +kernel
theorem d_pl_codeOfOnes_42 : decode prog_3_method_5_code 42 = .ok (.lload_n 2, 1) := by decide +kernel
theorem d_pl_codeOfOnes_43 : decode prog_3_method_5_code 43 = .ok (.lreturn, 1) := by decide +kernel
theorem d_pl_cheapest_0 : decode prog_3_method_6_code 0 = .ok (.iconst 1, 1) := by decide +kernel
theorem d_pl_cheapest_1 : decode prog_3_method_6_code 1 = .ok (.aload_n 0, 1) := by decide +kernel
theorem d_pl_cheapest_2 : decode prog_3_method_6_code 2 = .ok (.getfield 9, 3) := by decide +kernel
theorem d_pl_cheapest_5 : decode prog_3_method_6_code 5 = .ok (.getfield 29, 3) := by decide +kernel
theorem d_pl_cheapest_8 : decode prog_3_method_6_code 8 = .ok (.ishl, 1) := by decide +kernel
theorem d_pl_cheapest_9 : decode prog_3_method_6_code 9 = .ok (.iconst 1, 1) := by decide +kernel
theorem d_pl_cheapest_10 : decode prog_3_method_6_code 10 = .ok (.isub, 1) := by decide +kernel
theorem d_pl_cheapest_11 : decode prog_3_method_6_code 11 = .ok (.istore_n 2, 1) := by decide +kernel
theorem d_pl_cheapest_12 : decode prog_3_method_6_code 12 = .ok (.aload_n 0, 1) := by decide +kernel
theorem d_pl_cheapest_13 : decode prog_3_method_6_code 13 = .ok (.getfield 23, 3) := by decide +kernel
theorem d_pl_cheapest_16 : decode prog_3_method_6_code 16 = .ok (.iconst 0, 1) := by decide +kernel
theorem d_pl_cheapest_17 : decode prog_3_method_6_code 17 = .ok (.aload_n 0, 1) := by decide +kernel
theorem d_pl_cheapest_18 : decode prog_3_method_6_code 18 = .ok (.getfield 26, 3) := by decide +kernel
theorem d_pl_cheapest_21 : decode prog_3_method_6_code 21 = .ok (.iconst 0, 1) := by decide +kernel
theorem d_pl_cheapest_22 : decode prog_3_method_6_code 22 = .ok (.sipush 128, 3) := by decide +kernel
theorem d_pl_cheapest_25 : decode prog_3_method_6_code 25 = .ok (.invokestatic 78, 3) := by decide +kernel
theorem d_pl_cheapest_28 : decode prog_3_method_6_code 28 = .ok (.iconst 0, 1) := by decide +kernel
theorem d_pl_cheapest_29 : decode prog_3_method_6_code 29 = .ok (.istore_n 3, 1) := by decide +kernel
theorem d_pl_cheapest_30 : decode prog_3_method_6_code 30 = .ok (.iload_n 3, 1) := by decide +kernel
theorem d_pl_cheapest_31 : decode prog_3_method_6_code 31 = .ok (.aload_n 0, 1) := by decide +kernel
theorem d_pl_cheapest_32 : decode prog_3_method_6_code 32 = .ok (.getfield 9, 3) := by decide +kernel
theorem d_pl_cheapest_35 : decode prog_3_method_6_code 35 = .ok (.getfield 44, 3) := by decide +kernel
theorem d_pl_cheapest_38 : decode prog_3_method_6_code 38 = .ok (.if_icmp .ge 20, 3) := by decide +kernel
theorem d_pl_cheapest_41 : decode prog_3_method_6_code 41 = .ok (.iload_n 3, 1) := by decide +kernel
theorem d_pl_cheapest_42 : decode prog_3_method_6_code 42 = .ok (.iload_n 1, 1) := by decide +kernel
theorem d_pl_cheapest_43 : decode prog_3_method_6_code 43 = .ok (.if_icmp .eq 9, 3) := by decide +kernel
theorem d_pl_cheapest_46 : decode prog_3_method_6_code 46 = .ok (.aload_n 0, 1) := by decide +kernel
theorem d_pl_cheapest_47 : decode prog_3_method_6_code 47 = .ok (.iload_n 3, 1) := by decide +kernel
theorem d_pl_cheapest_48 : decode prog_3_method_6_code 48 = .ok (.iload_n 2, 1) := by decide +kernel
theorem d_pl_cheapest_49 : decode prog_3_method_6_code 49 = .ok (.invokevirtual 84, 3) := by decide +kernel
theorem d_pl_cheapest_52 : decode prog_3_method_6_code 52 = .ok (.iinc 3 1, 3) := by decide +kernel
theorem d_pl_cheapest_55 : decode prog_3_method_6_code 55 = .ok (.goto (-25), 3) := by decide +kernel
theorem d_pl_cheapest_58 : decode prog_3_method_6_code 58 = .ok (.aload_n 0, 1) := by decide +kernel
theorem d_pl_cheapest_59 : decode prog_3_method_6_code 59 = .ok (.getfield 26, 3) := by decide +kernel
theorem d_pl_cheapest_62 : decode prog_3_method_6_code 62 = .ok (.iload_n 2, 1) := by decide +kernel
theorem d_pl_cheapest_63 : decode prog_3_method_6_code 63 = .ok (.laload, 1) := by decide +kernel
theorem d_pl_cheapest_64 : decode prog_3_method_6_code 64 = .ok (.lreturn, 1) := by decide +kernel
theorem d_pl_addRounds_0 : decode prog_3_method_7_code 0 = .ok (.iload_n 2, 1) := by decide +kernel
theorem d_pl_addRounds_1 : decode prog_3_method_7_code 1 = .ok (.istore_n 3, 1) := by decide +kernel
theorem d_pl_addRounds_2 : decode prog_3_method_7_code 2 = .ok (.iload_n 3, 1) := by decide +kernel
theorem d_pl_addRounds_3 : decode prog_3_method_7_code 3 = .ok (.ifCond .le 21, 3) := by decide +kernel
theorem d_pl_addRounds_6 : decode prog_3_method_7_code 6 = .ok (.aload_n 0, 1) := by decide +kernel
theorem d_pl_addRounds_7 : decode prog_3_method_7_code 7 = .ok (.getfield 26, 3) := by decide +kernel
theorem d_pl_addRounds_10 : decode prog_3_method_7_code 10 = .ok (.iload_n 3, 1) := by decide +kernel
theorem d_pl_addRounds_11 : decode prog_3_method_7_code 11 = .ok (.aload_n 0, 1) := by decide +kernel
theorem d_pl_addRounds_12 : decode prog_3_method_7_code 12 = .ok (.iload_n 1, 1) := by decide +kernel
theorem d_pl_addRounds_13 : decode prog_3_method_7_code 13 = .ok (.iload_n 3, 1) := by decide +kernel
theorem d_pl_addRounds_14 : decode prog_3_method_7_code 14 = .ok (.invokevirtual 88, 3) := by decide +kernel
theorem d_pl_addRounds_17 : decode prog_3_method_7_code 17 = .ok (.lastore, 1) := by decide +kernel
theorem d_pl_addRounds_18 : decode prog_3_method_7_code 18 = .ok (.iinc 3 (-1), 3) := by decide +kernel
theorem d_pl_addRounds_21 : decode prog_3_method_7_code 21 = .ok (.goto (-19), 3) := by decide +kernel
theorem d_pl_addRounds_24 : decode prog_3_method_7_code 24 = .ok (.return_, 1) := by decide +kernel
theorem d_pl_leastWith_0 : decode prog_3_method_8_code 0 = .ok (.aload_n 0, 1) := by decide +kernel
theorem d_pl_leastWith_1 : decode prog_3_method_8_code 1 = .ok (.getfield 26, 3) := by decide +kernel
theorem d_pl_leastWith_4 : decode prog_3_method_8_code 4 = .ok (.iload_n 2, 1) := by decide +kernel
theorem d_pl_leastWith_5 : decode prog_3_method_8_code 5 = .ok (.laload, 1) := by decide +kernel
theorem d_pl_leastWith_6 : decode prog_3_method_8_code 6 = .ok (.lstore_n 3, 1) := by decide +kernel
theorem d_pl_leastWith_7 : decode prog_3_method_8_code 7 = .ok (.iload_n 2, 1) := by decide +kernel
theorem d_pl_leastWith_8 : decode prog_3_method_8_code 8 = .ok (.istore 5, 2) := by decide +kernel
theorem d_pl_leastWith_10 : decode prog_3_method_8_code 10 = .ok (.iload 5, 2) := by decide +kernel
theorem d_pl_leastWith_12 : decode prog_3_method_8_code 12 = .ok (.ifCond .le 42, 3) := by decide +kernel
theorem d_pl_leastWith_15 : decode prog_3_method_8_code 15 = .ok (.lload_n 3, 1) := by decide +kernel
theorem d_pl_leastWith_16 : decode prog_3_method_8_code 16 = .ok (.aload_n 0, 1) := by decide +kernel
theorem d_pl_leastWith_17 : decode prog_3_method_8_code 17 = .ok (.getfield 19, 3) := by decide +kernel
theorem d_pl_leastWith_20 : decode prog_3_method_8_code 20 = .ok (.iload_n 1, 1) := by decide +kernel
theorem d_pl_leastWith_21 : decode prog_3_method_8_code 21 = .ok (.sipush 128, 3) := by decide +kernel
theorem d_pl_leastWith_24 : decode prog_3_method_8_code 24 = .ok (.imul, 1) := by decide +kernel
theorem d_pl_leastWith_25 : decode prog_3_method_8_code 25 = .ok (.iload 5, 2) := by decide +kernel
theorem d_pl_leastWith_27 : decode prog_3_method_8_code 27 = .ok (.iadd, 1) := by decide +kernel
theorem d_pl_leastWith_28 : decode prog_3_method_8_code 28 = .ok (.laload, 1) := by decide +kernel
theorem d_pl_leastWith_29 : decode prog_3_method_8_code 29 = .ok (.aload_n 0, 1) := by decide +kernel
theorem d_pl_leastWith_30 : decode prog_3_method_8_code 30 = .ok (.getfield 26, 3) := by decide +kernel
theorem d_pl_leastWith_33 : decode prog_3_method_8_code 33 = .ok (.iload_n 2, 1) := by decide +kernel
theorem d_pl_leastWith_34 : decode prog_3_method_8_code 34 = .ok (.iload 5, 2) := by decide +kernel
theorem d_pl_leastWith_36 : decode prog_3_method_8_code 36 = .ok (.isub, 1) := by decide +kernel
theorem d_pl_leastWith_37 : decode prog_3_method_8_code 37 = .ok (.laload, 1) := by decide +kernel
theorem d_pl_leastWith_38 : decode prog_3_method_8_code 38 = .ok (.ladd, 1) := by decide +kernel
theorem d_pl_leastWith_39 : decode prog_3_method_8_code 39 = .ok (.invokestatic 92, 3) := by decide +kernel
theorem d_pl_leastWith_42 : decode prog_3_method_8_code 42 = .ok (.lstore_n 3, 1) := by decide +kernel
theorem d_pl_leastWith_43 : decode prog_3_method_8_code 43 = .ok (.iload 5, 2) := by decide +kernel
theorem d_pl_leastWith_45 : decode prog_3_method_8_code 45 = .ok (.iconst 1, 1) := by decide +kernel
theorem d_pl_leastWith_46 : decode prog_3_method_8_code 46 = .ok (.isub, 1) := by decide +kernel
theorem d_pl_leastWith_47 : decode prog_3_method_8_code 47 = .ok (.iload_n 2, 1) := by decide +kernel
theorem d_pl_leastWith_48 : decode prog_3_method_8_code 48 = .ok (.iand, 1) := by decide +kernel
theorem d_pl_leastWith_49 : decode prog_3_method_8_code 49 = .ok (.istore 5, 2) := by decide +kernel
theorem d_pl_leastWith_51 : decode prog_3_method_8_code 51 = .ok (.goto (-41), 3) := by decide +kernel
theorem d_pl_leastWith_54 : decode prog_3_method_8_code 54 = .ok (.lload_n 3, 1) := by decide +kernel
theorem d_pl_leastWith_55 : decode prog_3_method_8_code 55 = .ok (.lreturn, 1) := by decide +kernel
theorem d_rd_init_0 : decode prog_4_method_1_code 0 = .ok (.aload_n 0, 1) := by decide +kernel
theorem d_rd_init_1 : decode prog_4_method_1_code 1 = .ok (.invokespecial 3, 3) := by decide +kernel
theorem d_rd_init_4 : decode prog_4_method_1_code 4 = .ok (.aload_n 0, 1) := by decide +kernel
theorem d_rd_init_5 : decode prog_4_method_1_code 5 = .ok (.aload_n 1, 1) := by decide +kernel
theorem d_rd_init_6 : decode prog_4_method_1_code 6 = .ok (.putfield 9, 3) := by decide +kernel
theorem d_rd_init_9 : decode prog_4_method_1_code 9 = .ok (.aload_n 0, 1) := by decide +kernel
theorem d_rd_init_10 : decode prog_4_method_1_code 10 = .ok (.sipush 384, 3) := by decide +kernel
theorem d_rd_init_13 : decode prog_4_method_1_code 13 = .ok (.newarray .int, 2) := by decide +kernel
theorem d_rd_init_15 : decode prog_4_method_1_code 15 = .ok (.putfield 15, 3) := by decide +kernel
theorem d_rd_init_18 : decode prog_4_method_1_code 18 = .ok (.aload_n 0, 1) := by decide +kernel
theorem d_rd_init_19 : decode prog_4_method_1_code 19 = .ok (.sipush 896, 3) := by decide +kernel
theorem d_rd_init_22 : decode prog_4_method_1_code 22 = .ok (.newarray .int, 2) := by decide +kernel
theorem d_rd_init_24 : decode prog_4_method_1_code 24 = .ok (.putfield 19, 3) := by decide +kernel
theorem d_rd_init_27 : decode prog_4_method_1_code 27 = .ok (.aload_n 0, 1) := by decide +kernel
theorem d_rd_init_28 : decode prog_4_method_1_code 28 = .ok (.sipush 896, 3) := by decide +kernel
theorem d_rd_init_31 : decode prog_4_method_1_code 31 = .ok (.newarray .int, 2) := by decide +kernel
theorem d_rd_init_33 : decode prog_4_method_1_code 33 = .ok (.putfield 22, 3) := by decide +kernel
theorem d_rd_init_36 : decode prog_4_method_1_code 36 = .ok (.return_, 1) := by decide +kernel
