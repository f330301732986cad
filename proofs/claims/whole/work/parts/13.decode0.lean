theorem d_rp_init_0 : decode prog_1_method_1_code 0 = .ok (.aload_n 0, 1) := by decide +kernel
theorem d_rp_init_1 : decode prog_1_method_1_code 1 = .ok (.invokespecial 3, 3) := by decide +kernel
theorem d_rp_init_4 : decode prog_1_method_1_code 4 = .ok (.aload_n 0, 1) := by decide +kernel
theorem d_rp_init_5 : decode prog_1_method_1_code 5 = .ok (.new 9, 3) := by decide +kernel
theorem d_rp_init_8 : decode prog_1_method_1_code 8 = .ok (.dup, 1) := by decide +kernel
theorem d_rp_init_9 : decode prog_1_method_1_code 9 = .ok (.invokespecial 11, 3) := by decide +kernel
theorem d_rp_init_12 : decode prog_1_method_1_code 12 = .ok (.putfield 12, 3) := by decide +kernel
theorem d_rp_init_15 : decode prog_1_method_1_code 15 = .ok (.aload_n 0, 1) := by decide +kernel
theorem d_rp_init_16 : decode prog_1_method_1_code 16 = .ok (.new 16, 3) := by decide +kernel
theorem d_rp_init_19 : decode prog_1_method_1_code 19 = .ok (.dup, 1) := by decide +kernel
theorem d_rp_init_20 : decode prog_1_method_1_code 20 = .ok (.aload_n 0, 1) := by decide +kernel
theorem d_rp_init_21 : decode prog_1_method_1_code 21 = .ok (.getfield 12, 3) := by decide +kernel
theorem d_rp_init_24 : decode prog_1_method_1_code 24 = .ok (.invokespecial 18, 3) := by decide +kernel
theorem d_rp_init_27 : decode prog_1_method_1_code 27 = .ok (.putfield 21, 3) := by decide +kernel
theorem d_rp_init_30 : decode prog_1_method_1_code 30 = .ok (.aload_n 0, 1) := by decide +kernel
theorem d_rp_init_31 : decode prog_1_method_1_code 31 = .ok (.new 25, 3) := by decide +kernel
theorem d_rp_init_34 : decode prog_1_method_1_code 34 = .ok (.dup, 1) := by decide +kernel
theorem d_rp_init_35 : decode prog_1_method_1_code 35 = .ok (.aload_n 0, 1) := by decide +kernel
theorem d_rp_init_36 : decode prog_1_method_1_code 36 = .ok (.getfield 12, 3) := by decide +kernel
theorem d_rp_init_39 : decode prog_1_method_1_code 39 = .ok (.aload_n 0, 1) := by decide +kernel
theorem d_rp_init_40 : decode prog_1_method_1_code 40 = .ok (.getfield 21, 3) := by decide +kernel
theorem d_rp_init_43 : decode prog_1_method_1_code 43 = .ok (.invokespecial 27, 3) := by decide +kernel
theorem d_rp_init_46 : decode prog_1_method_1_code 46 = .ok (.putfield 30, 3) := by decide +kernel
theorem d_rp_init_49 : decode prog_1_method_1_code 49 = .ok (.aload_n 0, 1) := by decide +kernel
theorem d_rp_init_50 : decode prog_1_method_1_code 50 = .ok (.new 34, 3) := by decide +kernel
theorem d_rp_init_53 : decode prog_1_method_1_code 53 = .ok (.dup, 1) := by decide +kernel
theorem d_rp_init_54 : decode prog_1_method_1_code 54 = .ok (.invokespecial 36, 3) := by decide +kernel
theorem d_rp_init_57 : decode prog_1_method_1_code 57 = .ok (.putfield 37, 3) := by decide +kernel
theorem d_rp_init_60 : decode prog_1_method_1_code 60 = .ok (.return_, 1) := by decide +kernel
theorem d_rp_stop_0 : decode prog_1_method_2_code 0 = .ok (.aload_n 0, 1) := by decide +kernel
theorem d_rp_stop_1 : decode prog_1_method_2_code 1 = .ok (.getfield 12, 3) := by decide +kernel
theorem d_rp_stop_4 : decode prog_1_method_2_code 4 = .ok (.getfield 41, 3) := by decide +kernel
theorem d_rp_stop_7 : decode prog_1_method_2_code 7 = .ok (.bipush 7, 2) := by decide +kernel
theorem d_rp_stop_9 : decode prog_1_method_2_code 9 = .ok (.if_icmp .ge 12, 3) := by decide +kernel
theorem d_rp_stop_12 : decode prog_1_method_2_code 12 = .ok (.iload_n 1, 1) := by decide +kernel
theorem d_rp_stop_13 : decode prog_1_method_2_code 13 = .ok (.ldc 45, 2) := by decide +kernel
theorem d_rp_stop_15 : decode prog_1_method_2_code 15 = .ok (.invokestatic 46, 3) := by decide +kernel
theorem d_rp_stop_18 : decode prog_1_method_2_code 18 = .ok (.ifCond .ne 5, 3) := by decide +kernel
theorem d_rp_stop_21 : decode prog_1_method_2_code 21 = .ok (.iconst (-1), 1) := by decide +kernel
theorem d_rp_stop_22 : decode prog_1_method_2_code 22 = .ok (.ireturn, 1) := by decide +kernel
theorem d_rp_stop_23 : decode prog_1_method_2_code 23 = .ok (.aload_n 0, 1) := by decide +kernel
theorem d_rp_stop_24 : decode prog_1_method_2_code 24 = .ok (.getfield 12, 3) := by decide +kernel
theorem d_rp_stop_27 : decode prog_1_method_2_code 27 = .ok (.iload_n 1, 1) := by decide +kernel
theorem d_rp_stop_28 : decode prog_1_method_2_code 28 = .ok (.invokevirtual 50, 3) := by decide +kernel
theorem d_rp_stop_31 : decode prog_1_method_2_code 31 = .ok (.ireturn, 1) := by decide +kernel
theorem d_rp_hours_0 : decode prog_1_method_3_code 0 = .ok (.aload_n 0, 1) := by decide +kernel
theorem d_rp_hours_1 : decode prog_1_method_3_code 1 = .ok (.getfield 12, 3) := by decide +kernel
theorem d_rp_hours_4 : decode prog_1_method_3_code 4 = .ok (.iload_n 1, 1) := by decide +kernel
theorem d_rp_hours_5 : decode prog_1_method_3_code 5 = .ok (.invokevirtual 54, 3) := by decide +kernel
theorem d_rp_hours_8 : decode prog_1_method_3_code 8 = .ok (.ifCond .eq 22, 3) := by decide +kernel
theorem d_rp_hours_11 : decode prog_1_method_3_code 11 = .ok (.iload_n 2, 1) := by decide +kernel
theorem d_rp_hours_12 : decode prog_1_method_3_code 12 = .ok (.iload_n 3, 1) := by decide +kernel
theorem d_rp_hours_13 : decode prog_1_method_3_code 13 = .ok (.invokestatic 58, 3) := by decide +kernel
theorem d_rp_hours_16 : decode prog_1_method_3_code 16 = .ok (.ifCond .eq 14, 3) := by decide +kernel
theorem d_rp_hours_19 : decode prog_1_method_3_code 19 = .ok (.iload 4, 2) := by decide +kernel
theorem d_rp_hours_21 : decode prog_1_method_3_code 21 = .ok (.sipush 10000, 3) := by decide +kernel
theorem d_rp_hours_24 : decode prog_1_method_3_code 24 = .ok (.invokestatic 46, 3) := by decide +kernel
theorem d_rp_hours_27 : decode prog_1_method_3_code 27 = .ok (.ifCond .ne 5, 3) := by decide +kernel
theorem d_rp_hours_30 : decode prog_1_method_3_code 30 = .ok (.iconst 0, 1) := by decide +kernel
theorem d_rp_hours_31 : decode prog_1_method_3_code 31 = .ok (.ireturn, 1) := by decide +kernel
theorem d_rp_hours_32 : decode prog_1_method_3_code 32 = .ok (.aload_n 0, 1) := by decide +kernel
theorem d_rp_hours_33 : decode prog_1_method_3_code 33 = .ok (.getfield 12, 3) := by decide +kernel
theorem d_rp_hours_36 : decode prog_1_method_3_code 36 = .ok (.getfield 61, 3) := by decide +kernel
theorem d_rp_hours_39 : decode prog_1_method_3_code 39 = .ok (.iload_n 1, 1) := by decide +kernel
theorem d_rp_hours_40 : decode prog_1_method_3_code 40 = .ok (.iload_n 2, 1) := by decide +kernel
theorem d_rp_hours_41 : decode prog_1_method_3_code 41 = .ok (.iastore, 1) := by decide +kernel
theorem d_rp_hours_42 : decode prog_1_method_3_code 42 = .ok (.aload_n 0, 1) := by decide +kernel
theorem d_rp_hours_43 : decode prog_1_method_3_code 43 = .ok (.getfield 12, 3) := by decide +kernel
theorem d_rp_hours_46 : decode prog_1_method_3_code 46 = .ok (.getfield 65, 3) := by decide +kernel
theorem d_rp_hours_49 : decode prog_1_method_3_code 49 = .ok (.iload_n 1, 1) := by decide +kernel
theorem d_rp_hours_50 : decode prog_1_method_3_code 50 = .ok (.iload_n 3, 1) := by decide +kernel
theorem d_rp_hours_51 : decode prog_1_method_3_code 51 = .ok (.iastore, 1) := by decide +kernel
theorem d_rp_hours_52 : decode prog_1_method_3_code 52 = .ok (.aload_n 0, 1) := by decide +kernel
theorem d_rp_hours_53 : decode prog_1_method_3_code 53 = .ok (.getfield 12, 3) := by decide +kernel
theorem d_rp_hours_56 : decode prog_1_method_3_code 56 = .ok (.getfield 68, 3) := by decide +kernel
theorem d_rp_hours_59 : decode prog_1_method_3_code 59 = .ok (.iload_n 1, 1) := by decide +kernel
theorem d_rp_hours_60 : decode prog_1_method_3_code 60 = .ok (.iload 4, 2) := by decide +kernel
theorem d_rp_hours_62 : decode prog_1_method_3_code 62 = .ok (.iastore, 1) := by decide +kernel
theorem d_rp_hours_63 : decode prog_1_method_3_code 63 = .ok (.iconst 1, 1) := by decide +kernel
theorem d_rp_hours_64 : decode prog_1_method_3_code 64 = .ok (.ireturn, 1) := by decide +kernel
theorem d_rp_penalty_0 : decode prog_1_method_4_code 0 = .ok (.aload_n 0, 1) := by decide +kernel
theorem d_rp_penalty_1 : decode prog_1_method_4_code 1 = .ok (.getfield 12, 3) := by decide +kernel
theorem d_rp_penalty_4 : decode prog_1_method_4_code 4 = .ok (.iload_n 1, 1) := by decide +kernel
theorem d_rp_penalty_5 : decode prog_1_method_4_code 5 = .ok (.invokevirtual 54, 3) := by decide +kernel
theorem d_rp_penalty_8 : decode prog_1_method_4_code 8 = .ok (.ifCond .eq 17, 3) := by decide +kernel
theorem d_rp_penalty_11 : decode prog_1_method_4_code 11 = .ok (.lload_n 2, 1) := by decide +kernel
theorem d_rp_penalty_12 : decode prog_1_method_4_code 12 = .ok (.lconst 0, 1) := by decide +kernel
theorem d_rp_penalty_13 : decode prog_1_method_4_code 13 = .ok (.lcmp, 1) := by decide +kernel
theorem d_rp_penalty_14 : decode prog_1_method_4_code 14 = .ok (.ifCond .lt 11, 3) := by decide +kernel
theorem d_rp_penalty_17 : decode prog_1_method_4_code 17 = .ok (.lload_n 2, 1) := by decide +kernel
theorem d_rp_penalty_18 : decode prog_1_method_4_code 18 = .ok (.ldc2_w 71, 3) := by decide +kernel
theorem d_rp_penalty_21 : decode prog_1_method_4_code 21 = .ok (.lcmp, 1) := by decide +kernel
theorem d_rp_penalty_22 : decode prog_1_method_4_code 22 = .ok (.ifCond .le 5, 3) := by decide +kernel
theorem d_rp_penalty_25 : decode prog_1_method_4_code 25 = .ok (.iconst 0, 1) := by decide +kernel
theorem d_rp_penalty_26 : decode prog_1_method_4_code 26 = .ok (.ireturn, 1) := by decide +kernel
theorem d_rp_penalty_27 : decode prog_1_method_4_code 27 = .ok (.aload_n 0, 1) := by decide +kernel
theorem d_rp_penalty_28 : decode prog_1_method_4_code 28 = .ok (.getfield 12, 3) := by decide +kernel
theorem d_rp_penalty_31 : decode prog_1_method_4_code 31 = .ok (.getfield 73, 3) := by decide +kernel
theorem d_rp_penalty_34 : decode prog_1_method_4_code 34 = .ok (.iload_n 1, 1) := by decide +kernel
theorem d_rp_penalty_35 : decode prog_1_method_4_code 35 = .ok (.lload_n 2, 1) := by decide +kernel
theorem d_rp_penalty_36 : decode prog_1_method_4_code 36 = .ok (.lastore, 1) := by decide +kernel
theorem d_rp_penalty_37 : decode prog_1_method_4_code 37 = .ok (.iconst 1, 1) := by decide +kernel
theorem d_rp_penalty_38 : decode prog_1_method_4_code 38 = .ok (.ireturn, 1) := by decide +kernel
theorem d_rp_vehicle_0 : decode prog_1_method_5_code 0 = .ok (.aload_n 0, 1) := by decide +kernel
theorem d_rp_vehicle_1 : decode prog_1_method_5_code 1 = .ok (.getfield 12, 3) := by decide +kernel
theorem d_rp_vehicle_4 : decode prog_1_method_5_code 4 = .ok (.getfield 77, 3) := by decide +kernel
theorem d_rp_vehicle_7 : decode prog_1_method_5_code 7 = .ok (.iconst 3, 1) := by decide +kernel
theorem d_rp_vehicle_8 : decode prog_1_method_5_code 8 = .ok (.if_icmp .ge 31, 3) := by decide +kernel
theorem d_rp_vehicle_11 : decode prog_1_method_5_code 11 = .ok (.iload_n 1, 1) := by decide +kernel
theorem d_rp_vehicle_12 : decode prog_1_method_5_code 12 = .ok (.ldc 80, 2) := by decide +kernel
theorem d_rp_vehicle_14 : decode prog_1_method_5_code 14 = .ok (.invokestatic 46, 3) := by decide +kernel
theorem d_rp_vehicle_17 : decode prog_1_method_5_code 17 = .ok (.ifCond .eq 22, 3) := by decide +kernel
theorem d_rp_vehicle_20 : decode prog_1_method_5_code 20 = .ok (.iload_n 2, 1) := by decide +kernel
theorem d_rp_vehicle_21 : decode prog_1_method_5_code 21 = .ok (.iload_n 3, 1) := by decide +kernel
theorem d_rp_vehicle_22 : decode prog_1_method_5_code 22 = .ok (.invokestatic 58, 3) := by decide +kernel
theorem d_rp_vehicle_25 : decode prog_1_method_5_code 25 = .ok (.ifCond .eq 14, 3) := by decide +kernel
theorem d_rp_vehicle_28 : decode prog_1_method_5_code 28 = .ok (.iload 4, 2) := by decide +kernel
theorem d_rp_vehicle_30 : decode prog_1_method_5_code 30 = .ok (.sipush 1000, 3) := by decide +kernel
theorem d_rp_vehicle_33 : decode prog_1_method_5_code 33 = .ok (.invokestatic 46, 3) := by decide +kernel
theorem d_rp_vehicle_36 : decode prog_1_method_5_code 36 = .ok (.ifCond .ne 5, 3) := by decide +kernel
theorem d_rp_vehicle_39 : decode prog_1_method_5_code 39 = .ok (.iconst (-1), 1) := by decide +kernel
theorem d_rp_vehicle_40 : decode prog_1_method_5_code 40 = .ok (.ireturn, 1) := by decide +kernel
theorem d_rp_vehicle_41 : decode prog_1_method_5_code 41 = .ok (.aload_n 0, 1) := by decide +kernel
theorem d_rp_vehicle_42 : decode prog_1_method_5_code 42 = .ok (.getfield 12, 3) := by decide +kernel
theorem d_rp_vehicle_45 : decode prog_1_method_5_code 45 = .ok (.iload_n 1, 1) := by decide +kernel
theorem d_rp_vehicle_46 : decode prog_1_method_5_code 46 = .ok (.iload_n 2, 1) := by decide +kernel
theorem d_rp_vehicle_47 : decode prog_1_method_5_code 47 = .ok (.iload_n 3, 1) := by decide +kernel
theorem d_rp_vehicle_48 : decode prog_1_method_5_code 48 = .ok (.iload 4, 2) := by decide +kernel
theorem d_rp_vehicle_50 : decode prog_1_method_5_code 50 = .ok (.invokevirtual 81, 3) := by decide +kernel
theorem d_rp_vehicle_53 : decode prog_1_method_5_code 53 = .ok (.ireturn, 1) := by decide +kernel
theorem d_rp_way_0 : decode prog_1_method_6_code 0 = .ok (.iload_n 1, 1) := by decide +kernel
theorem d_rp_way_1 : decode prog_1_method_6_code 1 = .ok (.bipush 7, 2) := by decide +kernel
theorem d_rp_way_3 : decode prog_1_method_6_code 3 = .ok (.invokestatic 46, 3) := by decide +kernel
theorem d_rp_way_6 : decode prog_1_method_6_code 6 = .ok (.ifCond .eq 26, 3) := by decide +kernel
theorem d_rp_way_9 : decode prog_1_method_6_code 9 = .ok (.iload_n 2, 1) := by decide +kernel
theorem d_rp_way_10 : decode prog_1_method_6_code 10 = .ok (.bipush 7, 2) := by decide +kernel
theorem d_rp_way_12 : decode prog_1_method_6_code 12 = .ok (.invokestatic 46, 3) := by decide +kernel
theorem d_rp_way_15 : decode prog_1_method_6_code 15 = .ok (.ifCond .eq 17, 3) := by decide +kernel
theorem d_rp_way_18 : decode prog_1_method_6_code 18 = .ok (.iload_n 1, 1) := by decide +kernel
theorem d_rp_way_19 : decode prog_1_method_6_code 19 = .ok (.iload_n 2, 1) := by decide +kernel
theorem d_rp_way_20 : decode prog_1_method_6_code 20 = .ok (.if_icmp .eq 12, 3) := by decide +kernel
theorem d_rp_way_23 : decode prog_1_method_6_code 23 = .ok (.iload_n 3, 1) := by decide +kernel
theorem d_rp_way_24 : decode prog_1_method_6_code 24 = .ok (.ldc 85, 2) := by decide +kernel
theorem d_rp_way_26 : decode prog_1_method_6_code 26 = .ok (.invokestatic 46, 3) := by decide +kernel
theorem d_rp_way_29 : decode prog_1_method_6_code 29 = .ok (.ifCond .ne 5, 3) := by decide +kernel
theorem d_rp_way_32 : decode prog_1_method_6_code 32 = .ok (.iconst 0, 1) := by decide +kernel
theorem d_rp_way_33 : decode prog_1_method_6_code 33 = .ok (.ireturn, 1) := by decide +kernel
theorem d_rp_way_34 : decode prog_1_method_6_code 34 = .ok (.aload_n 0, 1) := by decide +kernel
theorem d_rp_way_35 : decode prog_1_method_6_code 35 = .ok (.getfield 12, 3) := by decide +kernel
theorem d_rp_way_38 : decode prog_1_method_6_code 38 = .ok (.getfield 86, 3) := by decide +kernel
theorem d_rp_way_41 : decode prog_1_method_6_code 41 = .ok (.iload_n 1, 1) := by decide +kernel
theorem d_rp_way_42 : decode prog_1_method_6_code 42 = .ok (.bipush 8, 2) := by decide +kernel
theorem d_rp_way_44 : decode prog_1_method_6_code 44 = .ok (.imul, 1) := by decide +kernel
theorem d_rp_way_45 : decode prog_1_method_6_code 45 = .ok (.iload_n 2, 1) := by decide +kernel
theorem d_rp_way_46 : decode prog_1_method_6_code 46 = .ok (.iadd, 1) := by decide +kernel
theorem d_rp_way_47 : decode prog_1_method_6_code 47 = .ok (.iload_n 3, 1) := by decide +kernel
theorem d_rp_way_48 : decode prog_1_method_6_code 48 = .ok (.iastore, 1) := by decide +kernel
theorem d_rp_way_49 : decode prog_1_method_6_code 49 = .ok (.iconst 1, 1) := by decide +kernel
theorem d_rp_way_50 : decode prog_1_method_6_code 50 = .ok (.ireturn, 1) := by decide +kernel
theorem d_rp_fixed_0 : decode prog_1_method_7_code 0 = .ok (.aload_n 0, 1) := by decide +kernel
theorem d_rp_fixed_1 : decode prog_1_method_7_code 1 = .ok (.getfield 12, 3) := by decide +kernel
theorem d_rp_fixed_4 : decode prog_1_method_7_code 4 = .ok (.iload_n 1, 1) := by decide +kernel
theorem d_rp_fixed_5 : decode prog_1_method_7_code 5 = .ok (.invokevirtual 54, 3) := by decide +kernel
theorem d_rp_fixed_8 : decode prog_1_method_7_code 8 = .ok (.ifCond .eq 19, 3) := by decide +kernel
theorem d_rp_fixed_11 : decode prog_1_method_7_code 11 = .ok (.iload_n 2, 1) := by decide +kernel
theorem d_rp_fixed_12 : decode prog_1_method_7_code 12 = .ok (.iconst (-1), 1) := by decide +kernel
theorem d_rp_fixed_13 : decode prog_1_method_7_code 13 = .ok (.if_icmp .eq 16, 3) := by decide +kernel
theorem d_rp_fixed_16 : decode prog_1_method_7_code 16 = .ok (.aload_n 0, 1) := by decide +kernel
theorem d_rp_fixed_17 : decode prog_1_method_7_code 17 = .ok (.getfield 12, 3) := by decide +kernel
theorem d_rp_fixed_20 : decode prog_1_method_7_code 20 = .ok (.iload_n 2, 1) := by decide +kernel
theorem d_rp_fixed_21 : decode prog_1_method_7_code 21 = .ok (.invokevirtual 89, 3) := by decide +kernel
theorem d_rp_fixed_24 : decode prog_1_method_7_code 24 = .ok (.ifCond .ne 5, 3) := by decide +kernel
theorem d_rp_fixed_27 : decode prog_1_method_7_code 27 = .ok (.iconst 0, 1) := by decide +kernel
theorem d_rp_fixed_28 : decode prog_1_method_7_code 28 = .ok (.ireturn, 1) := by decide +kernel
theorem d_rp_fixed_29 : decode prog_1_method_7_code 29 = .ok (.aload_n 0, 1) := by decide +kernel
theorem d_rp_fixed_30 : decode prog_1_method_7_code 30 = .ok (.getfield 12, 3) := by decide +kernel
theorem d_rp_fixed_33 : decode prog_1_method_7_code 33 = .ok (.getfield 92, 3) := by decide +kernel
theorem d_rp_fixed_36 : decode prog_1_method_7_code 36 = .ok (.iload_n 1, 1) := by decide +kernel
theorem d_rp_fixed_37 : decode prog_1_method_7_code 37 = .ok (.iload_n 2, 1) := by decide +kernel
theorem d_rp_fixed_38 : decode prog_1_method_7_code 38 = .ok (.iastore, 1) := by decide +kernel
theorem d_rp_fixed_39 : decode prog_1_method_7_code 39 = .ok (.iconst 1, 1) := by decide +kernel
theorem d_rp_fixed_40 : decode prog_1_method_7_code 40 = .ok (.ireturn, 1) := by decide +kernel
theorem d_rp_apart_0 : decode prog_1_method_8_code 0 = .ok (.aload_n 0, 1) := by decide +kernel
theorem d_rp_apart_1 : decode prog_1_method_8_code 1 = .ok (.getfield 12, 3) := by decide +kernel
theorem d_rp_apart_4 : decode prog_1_method_8_code 4 = .ok (.iload_n 1, 1) := by decide +kernel
theorem d_rp_apart_5 : decode prog_1_method_8_code 5 = .ok (.iload_n 2, 1) := by decide +kernel
theorem d_rp_apart_6 : decode prog_1_method_8_code 6 = .ok (.invokevirtual 95, 3) := by decide +kernel
theorem d_rp_apart_9 : decode prog_1_method_8_code 9 = .ok (.ifCond .ne 5, 3) := by decide +kernel
theorem d_rp_apart_12 : decode prog_1_method_8_code 12 = .ok (.iconst 0, 1) := by decide +kernel
theorem d_rp_apart_13 : decode prog_1_method_8_code 13 = .ok (.ireturn, 1) := by decide +kernel
theorem d_rp_apart_14 : decode prog_1_method_8_code 14 = .ok (.aload_n 0, 1) := by decide +kernel
theorem d_rp_apart_15 : decode prog_1_method_8_code 15 = .ok (.getfield 12, 3) := by decide +kernel
theorem d_rp_apart_18 : decode prog_1_method_8_code 18 = .ok (.iload_n 1, 1) := by decide +kernel
theorem d_rp_apart_19 : decode prog_1_method_8_code 19 = .ok (.iload_n 2, 1) := by decide +kernel
theorem d_rp_apart_20 : decode prog_1_method_8_code 20 = .ok (.iload_n 3, 1) := by decide +kernel
theorem d_rp_apart_21 : decode prog_1_method_8_code 21 = .ok (.invokevirtual 98, 3) := by decide +kernel
theorem d_rp_apart_24 : decode prog_1_method_8_code 24 = .ok (.iconst 1, 1) := by decide +kernel
theorem d_rp_apart_25 : decode prog_1_method_8_code 25 = .ok (.ireturn, 1) := by decide +kernel
theorem d_rp_before_0 : decode prog_1_method_9_code 0 = .ok (.aload_n 0, 1) := by decide +kernel
theorem d_rp_before_1 : decode prog_1_method_9_code 1 = .ok (.getfield 12, 3) := by decide +kernel
theorem d_rp_before_4 : decode prog_1_method_9_code 4 = .ok (.iload_n 1, 1) := by decide +kernel
theorem d_rp_before_5 : decode prog_1_method_9_code 5 = .ok (.iload_n 2, 1) := by decide +kernel
theorem d_rp_before_6 : decode prog_1_method_9_code 6 = .ok (.invokevirtual 95, 3) := by decide +kernel
theorem d_rp_before_9 : decode prog_1_method_9_code 9 = .ok (.ifCond .eq 35, 3) := by decide +kernel
theorem d_rp_before_12 : decode prog_1_method_9_code 12 = .ok (.aload_n 0, 1) := by decide +kernel
theorem d_rp_before_13 : decode prog_1_method_9_code 13 = .ok (.getfield 12, 3) := by decide +kernel
theorem d_rp_before_16 : decode prog_1_method_9_code 16 = .ok (.getfield 102, 3) := by decide +kernel
theorem d_rp_before_19 : decode prog_1_method_9_code 19 = .ok (.iload_n 1, 1) := by decide +kernel
theorem d_rp_before_20 : decode prog_1_method_9_code 20 = .ok (.iaload, 1) := by decide +kernel
theorem d_rp_before_21 : decode prog_1_method_9_code 21 = .ok (.iload_n 2, 1) := by decide +kernel
theorem d_rp_before_22 : decode prog_1_method_9_code 22 = .ok (.invokestatic 105, 3) := by decide +kernel
theorem d_rp_before_25 : decode prog_1_method_9_code 25 = .ok (.ifCond .ne 19, 3) := by decide +kernel
theorem d_rp_before_28 : decode prog_1_method_9_code 28 = .ok (.aload_n 0, 1) := by decide +kernel
theorem d_rp_before_29 : decode prog_1_method_9_code 29 = .ok (.getfield 12, 3) := by decide +kernel
theorem d_rp_before_32 : decode prog_1_method_9_code 32 = .ok (.getfield 108, 3) := by decide +kernel
theorem d_rp_before_35 : decode prog_1_method_9_code 35 = .ok (.iload_n 2, 1) := by decide +kernel
theorem d_rp_before_36 : decode prog_1_method_9_code 36 = .ok (.iaload, 1) := by decide +kernel
theorem d_rp_before_37 : decode prog_1_method_9_code 37 = .ok (.iload_n 1, 1) := by decide +kernel
theorem d_rp_before_38 : decode prog_1_method_9_code 38 = .ok (.invokestatic 105, 3) := by decide +kernel
theorem d_rp_before_41 : decode prog_1_method_9_code 41 = .ok (.ifCond .eq 5, 3) := by decide +kernel
theorem d_rp_before_44 : decode prog_1_method_9_code 44 = .ok (.iconst 0, 1) := by decide +kernel
theorem d_rp_before_45 : decode prog_1_method_9_code 45 = .ok (.ireturn, 1) := by decide +kernel
theorem d_rp_before_46 : decode prog_1_method_9_code 46 = .ok (.aload_n 0, 1) := by decide +kernel
theorem d_rp_before_47 : decode prog_1_method_9_code 47 = .ok (.getfield 12, 3) := by decide +kernel
theorem d_rp_before_50 : decode prog_1_method_9_code 50 = .ok (.iload_n 1, 1) := by decide +kernel
theorem d_rp_before_51 : decode prog_1_method_9_code 51 = .ok (.iload_n 2, 1) := by decide +kernel
theorem d_rp_before_52 : decode prog_1_method_9_code 52 = .ok (.invokevirtual 111, 3) := by decide +kernel
theorem d_rp_before_55 : decode prog_1_method_9_code 55 = .ok (.iconst 1, 1) := by decide +kernel
theorem d_rp_before_56 : decode prog_1_method_9_code 56 = .ok (.ireturn, 1) := by decide +kernel
theorem d_rp_run_0 : decode prog_1_method_10_code 0 = .ok (.aload_n 0, 1) := by decide +kernel
theorem d_rp_run_1 : decode prog_1_method_10_code 1 = .ok (.getfield 21, 3) := by decide +kernel
theorem d_rp_run_4 : decode prog_1_method_10_code 4 = .ok (.invokevirtual 115, 3) := by decide +kernel
theorem d_rp_run_7 : decode prog_1_method_10_code 7 = .ok (.aload_n 0, 1) := by decide +kernel
theorem d_rp_run_8 : decode prog_1_method_10_code 8 = .ok (.getfield 30, 3) := by decide +kernel
theorem d_rp_run_11 : decode prog_1_method_10_code 11 = .ok (.invokevirtual 118, 3) := by decide +kernel
theorem d_rp_run_14 : decode prog_1_method_10_code 14 = .ok (.aload_n 0, 1) := by decide +kernel
theorem d_rp_run_15 : decode prog_1_method_10_code 15 = .ok (.getfield 30, 3) := by decide +kernel
theorem d_rp_run_18 : decode prog_1_method_10_code 18 = .ok (.iconst (-1), 1) := by decide +kernel
theorem d_rp_run_19 : decode prog_1_method_10_code 19 = .ok (.invokevirtual 121, 3) := by decide +kernel
theorem d_rp_run_22 : decode prog_1_method_10_code 22 = .ok (.lstore_n 1, 1) := by decide +kernel
theorem d_rp_run_23 : decode prog_1_method_10_code 23 = .ok (.aload_n 0, 1) := by decide +kernel
theorem d_rp_run_24 : decode prog_1_method_10_code 24 = .ok (.getfield 37, 3) := by decide +kernel
theorem d_rp_run_27 : decode prog_1_method_10_code 27 = .ok (.aload_n 0, 1) := by decide +kernel
theorem d_rp_run_28 : decode prog_1_method_10_code 28 = .ok (.getfield 12, 3) := by decide +kernel
theorem d_rp_run_31 : decode prog_1_method_10_code 31 = .ok (.lload_n 1, 1) := by decide +kernel
theorem d_rp_run_32 : decode prog_1_method_10_code 32 = .ok (.invokevirtual 125, 3) := by decide +kernel
theorem d_rp_run_35 : decode prog_1_method_10_code 35 = .ok (.iconst 0, 1) := by decide +kernel
theorem d_rp_run_36 : decode prog_1_method_10_code 36 = .ok (.istore_n 3, 1) := by decide +kernel
theorem d_rp_run_37 : decode prog_1_method_10_code 37 = .ok (.iload_n 3, 1) := by decide +kernel
theorem d_rp_run_38 : decode prog_1_method_10_code 38 = .ok (.aload_n 0, 1) := by decide +kernel
theorem d_rp_run_39 : decode prog_1_method_10_code 39 = .ok (.getfield 12, 3) := by decide +kernel
theorem d_rp_run_42 : decode prog_1_method_10_code 42 = .ok (.getfield 77, 3) := by decide +kernel
theorem d_rp_run_45 : decode prog_1_method_10_code 45 = .ok (.if_icmp .ge 70, 3) := by decide +kernel
theorem d_rp_run_48 : decode prog_1_method_10_code 48 = .ok (.aload_n 0, 1) := by decide +kernel
theorem d_rp_run_49 : decode prog_1_method_10_code 49 = .ok (.getfield 37, 3) := by decide +kernel
theorem d_rp_run_52 : decode prog_1_method_10_code 52 = .ok (.getfield 129, 3) := by decide +kernel
theorem d_rp_run_55 : decode prog_1_method_10_code 55 = .ok (.iload_n 3, 1) := by decide +kernel
theorem d_rp_run_56 : decode prog_1_method_10_code 56 = .ok (.aload_n 0, 1) := by decide +kernel
theorem d_rp_run_57 : decode prog_1_method_10_code 57 = .ok (.getfield 30, 3) := by decide +kernel
theorem d_rp_run_60 : decode prog_1_method_10_code 60 = .ok (.iload_n 3, 1) := by decide +kernel
theorem d_rp_run_61 : decode prog_1_method_10_code 61 = .ok (.invokevirtual 121, 3) := by decide +kernel
theorem d_rp_run_64 : decode prog_1_method_10_code 64 = .ok (.invokestatic 132, 3) := by decide +kernel
theorem d_rp_run_67 : decode prog_1_method_10_code 67 = .ok (.aload_n 0, 1) := by decide +kernel
theorem d_rp_run_68 : decode prog_1_method_10_code 68 = .ok (.getfield 37, 3) := by decide +kernel
theorem d_rp_run_71 : decode prog_1_method_10_code 71 = .ok (.getfield 136, 3) := by decide +kernel
theorem d_rp_run_74 : decode prog_1_method_10_code 74 = .ok (.lsub, 1) := by decide +kernel
theorem d_rp_run_75 : decode prog_1_method_10_code 75 = .ok (.lastore, 1) := by decide +kernel
theorem d_rp_run_76 : decode prog_1_method_10_code 76 = .ok (.lload_n 1, 1) := by decide +kernel
theorem d_rp_run_77 : decode prog_1_method_10_code 77 = .ok (.iload_n 3, 1) := by decide +kernel
theorem d_rp_run_78 : decode prog_1_method_10_code 78 = .ok (.aload_n 0, 1) := by decide +kernel
theorem d_rp_run_79 : decode prog_1_method_10_code 79 = .ok (.getfield 12, 3) := by decide +kernel
theorem d_rp_run_82 : decode prog_1_method_10_code 82 = .ok (.getfield 41, 3) := by decide +kernel
theorem d_rp_run_85 : decode prog_1_method_10_code 85 = .ok (.invokestatic 140, 3) := by decide +kernel
theorem d_rp_run_88 : decode prog_1_method_10_code 88 = .ok (.istore 4, 2) := by decide +kernel
theorem d_rp_run_90 : decode prog_1_method_10_code 90 = .ok (.iload 4, 2) := by decide +kernel
theorem d_rp_run_92 : decode prog_1_method_10_code 92 = .ok (.ifCond .eq 17, 3) := by decide +kernel
theorem d_rp_run_95 : decode prog_1_method_10_code 95 = .ok (.aload_n 0, 1) := by decide +kernel
theorem d_rp_run_96 : decode prog_1_method_10_code 96 = .ok (.getfield 21, 3) := by decide +kernel
theorem d_rp_run_99 : decode prog_1_method_10_code 99 = .ok (.iload_n 3, 1) := by decide +kernel
theorem d_rp_run_100 : decode prog_1_method_10_code 100 = .ok (.iload 4, 2) := by decide +kernel
theorem d_rp_run_102 : decode prog_1_method_10_code 102 = .ok (.aload_n 0, 1) := by decide +kernel
theorem d_rp_run_103 : decode prog_1_method_10_code 103 = .ok (.getfield 37, 3) := by decide +kernel
theorem d_rp_run_106 : decode prog_1_method_10_code 106 = .ok (.invokevirtual 144, 3) := by decide +kernel
theorem d_rp_run_109 : decode prog_1_method_10_code 109 = .ok (.iinc 3 1, 3) := by decide +kernel
theorem d_rp_run_112 : decode prog_1_method_10_code 112 = .ok (.goto (-75), 3) := by decide +kernel
theorem d_rp_run_115 : decode prog_1_method_10_code 115 = .ok (.lload_n 1, 1) := by decide +kernel
theorem d_rp_run_116 : decode prog_1_method_10_code 116 = .ok (.iconst 3, 1) := by decide +kernel
theorem d_rp_run_117 : decode prog_1_method_10_code 117 = .ok (.aload_n 0, 1) := by decide +kernel
theorem d_rp_run_118 : decode prog_1_method_10_code 118 = .ok (.getfield 12, 3) := by decide +kernel
theorem d_rp_run_121 : decode prog_1_method_10_code 121 = .ok (.getfield 41, 3) := by decide +kernel
theorem d_rp_run_124 : decode prog_1_method_10_code 124 = .ok (.invokestatic 140, 3) := by decide +kernel
theorem d_rp_run_127 : decode prog_1_method_10_code 127 = .ok (.invokestatic 148, 3) := by decide +kernel
theorem d_rp_run_130 : decode prog_1_method_10_code 130 = .ok (.ireturn, 1) := by decide +kernel
theorem d_rp_cost_0 : decode prog_1_method_11_code 0 = .ok (.aload_n 0, 1) := by decide +kernel
theorem d_rp_cost_1 : decode prog_1_method_11_code 1 = .ok (.getfield 37, 3) := by decide +kernel
theorem d_rp_cost_4 : decode prog_1_method_11_code 4 = .ok (.getfield 136, 3) := by decide +kernel
theorem d_rp_cost_7 : decode prog_1_method_11_code 7 = .ok (.lreturn, 1) := by decide +kernel
theorem d_rp_vehicleOf_0 : decode prog_1_method_12_code 0 = .ok (.aload_n 0, 1) := by decide +kernel
theorem d_rp_vehicleOf_1 : decode prog_1_method_12_code 1 = .ok (.getfield 37, 3) := by decide +kernel
theorem d_rp_vehicleOf_4 : decode prog_1_method_12_code 4 = .ok (.iload_n 1, 1) := by decide +kernel
theorem d_rp_vehicleOf_5 : decode prog_1_method_12_code 5 = .ok (.invokevirtual 153, 3) := by decide +kernel
theorem d_rp_vehicleOf_8 : decode prog_1_method_12_code 8 = .ok (.ifCond .eq 15, 3) := by decide +kernel
theorem d_rp_vehicleOf_11 : decode prog_1_method_12_code 11 = .ok (.aload_n 0, 1) := by decide +kernel
theorem d_rp_vehicleOf_12 : decode prog_1_method_12_code 12 = .ok (.getfield 37, 3) := by decide +kernel
theorem d_rp_vehicleOf_15 : decode prog_1_method_12_code 15 = .ok (.getfield 154, 3) := by decide +kernel
theorem d_rp_vehicleOf_18 : decode prog_1_method_12_code 18 = .ok (.iload_n 1, 1) := by decide +kernel
theorem d_rp_vehicleOf_19 : decode prog_1_method_12_code 19 = .ok (.iaload, 1) := by decide +kernel
theorem d_rp_vehicleOf_20 : decode prog_1_method_12_code 20 = .ok (.goto 4, 3) := by decide +kernel
theorem d_rp_vehicleOf_23 : decode prog_1_method_12_code 23 = .ok (.iconst (-1), 1) := by decide +kernel
theorem d_rp_vehicleOf_24 : decode prog_1_method_12_code 24 = .ok (.ireturn, 1) := by decide +kernel
theorem d_rp_at_0 : decode prog_1_method_13_code 0 = .ok (.aload_n 0, 1) := by decide +kernel
theorem d_rp_at_1 : decode prog_1_method_13_code 1 = .ok (.getfield 37, 3) := by decide +kernel
theorem d_rp_at_4 : decode prog_1_method_13_code 4 = .ok (.iload_n 1, 1) := by decide +kernel
theorem d_rp_at_5 : decode prog_1_method_13_code 5 = .ok (.invokevirtual 156, 3) := by decide +kernel
theorem d_rp_at_8 : decode prog_1_method_13_code 8 = .ok (.ifCond .eq 20, 3) := by decide +kernel
theorem d_rp_at_11 : decode prog_1_method_13_code 11 = .ok (.iload_n 2, 1) := by decide +kernel
theorem d_rp_at_12 : decode prog_1_method_13_code 12 = .ok (.ifCond .lt 16, 3) := by decide +kernel
theorem d_rp_at_15 : decode prog_1_method_13_code 15 = .ok (.iload_n 2, 1) := by decide +kernel
theorem d_rp_at_16 : decode prog_1_method_13_code 16 = .ok (.aload_n 0, 1) := by decide +kernel
theorem d_rp_at_17 : decode prog_1_method_13_code 17 = .ok (.getfield 37, 3) := by decide +kernel
theorem d_rp_at_20 : decode prog_1_method_13_code 20 = .ok (.getfield 157, 3) := by decide +kernel
theorem d_rp_at_23 : decode prog_1_method_13_code 23 = .ok (.iload_n 1, 1) := by decide +kernel
theorem d_rp_at_24 : decode prog_1_method_13_code 24 = .ok (.iaload, 1) := by decide +kernel
theorem d_rp_at_25 : decode prog_1_method_13_code 25 = .ok (.if_icmp .lt 5, 3) := by decide +kernel
theorem d_rp_at_28 : decode prog_1_method_13_code 28 = .ok (.iconst (-1), 1) := by decide +kernel
theorem d_rp_at_29 : decode prog_1_method_13_code 29 = .ok (.ireturn, 1) := by decide +kernel
theorem d_rp_at_30 : decode prog_1_method_13_code 30 = .ok (.aload_n 0, 1) := by decide +kernel
theorem d_rp_at_31 : decode prog_1_method_13_code 31 = .ok (.getfield 37, 3) := by decide +kernel
theorem d_rp_at_34 : decode prog_1_method_13_code 34 = .ok (.getfield 160, 3) := by decide +kernel
theorem d_rp_at_37 : decode prog_1_method_13_code 37 = .ok (.iload_n 1, 1) := by decide +kernel
theorem d_rp_at_38 : decode prog_1_method_13_code 38 = .ok (.bipush 7, 2) := by decide +kernel
theorem d_rp_at_40 : decode prog_1_method_13_code 40 = .ok (.imul, 1) := by decide +kernel
theorem d_rp_at_41 : decode prog_1_method_13_code 41 = .ok (.iload_n 2, 1) := by decide +kernel
theorem d_rp_at_42 : decode prog_1_method_13_code 42 = .ok (.iadd, 1) := by decide +kernel
theorem d_rp_at_43 : decode prog_1_method_13_code 43 = .ok (.iaload, 1) := by decide +kernel
theorem d_rp_at_44 : decode prog_1_method_13_code 44 = .ok (.ireturn, 1) := by decide +kernel
theorem d_rp_begun_0 : decode prog_1_method_14_code 0 = .ok (.aload_n 0, 1) := by decide +kernel
theorem d_rp_begun_1 : decode prog_1_method_14_code 1 = .ok (.getfield 37, 3) := by decide +kernel
theorem d_rp_begun_4 : decode prog_1_method_14_code 4 = .ok (.iload_n 1, 1) := by decide +kernel
theorem d_rp_begun_5 : decode prog_1_method_14_code 5 = .ok (.invokevirtual 153, 3) := by decide +kernel
theorem d_rp_begun_8 : decode prog_1_method_14_code 8 = .ok (.ifCond .eq 15, 3) := by decide +kernel
theorem d_rp_begun_11 : decode prog_1_method_14_code 11 = .ok (.aload_n 0, 1) := by decide +kernel
theorem d_rp_begun_12 : decode prog_1_method_14_code 12 = .ok (.getfield 37, 3) := by decide +kernel
theorem d_rp_begun_15 : decode prog_1_method_14_code 15 = .ok (.getfield 163, 3) := by decide +kernel
theorem d_rp_begun_18 : decode prog_1_method_14_code 18 = .ok (.iload_n 1, 1) := by decide +kernel
theorem d_rp_begun_19 : decode prog_1_method_14_code 19 = .ok (.iaload, 1) := by decide +kernel
theorem d_rp_begun_20 : decode prog_1_method_14_code 20 = .ok (.goto 4, 3) := by decide +kernel
theorem d_rp_begun_23 : decode prog_1_method_14_code 23 = .ok (.iconst (-1), 1) := by decide +kernel
theorem d_rp_begun_24 : decode prog_1_method_14_code 24 = .ok (.ireturn, 1) := by decide +kernel
theorem d_rp_back_0 : decode prog_1_method_15_code 0 = .ok (.aload_n 0, 1) := by decide +kernel
theorem d_rp_back_1 : decode prog_1_method_15_code 1 = .ok (.getfield 37, 3) := by decide +kernel
theorem d_rp_back_4 : decode prog_1_method_15_code 4 = .ok (.iload_n 1, 1) := by decide +kernel
theorem d_rp_back_5 : decode prog_1_method_15_code 5 = .ok (.invokevirtual 156, 3) := by decide +kernel
theorem d_rp_back_8 : decode prog_1_method_15_code 8 = .ok (.ifCond .eq 15, 3) := by decide +kernel
theorem d_rp_back_11 : decode prog_1_method_15_code 11 = .ok (.aload_n 0, 1) := by decide +kernel
theorem d_rp_back_12 : decode prog_1_method_15_code 12 = .ok (.getfield 37, 3) := by decide +kernel
theorem d_rp_back_15 : decode prog_1_method_15_code 15 = .ok (.getfield 166, 3) := by decide +kernel
theorem d_rp_back_18 : decode prog_1_method_15_code 18 = .ok (.iload_n 1, 1) := by decide +kernel
theorem d_rp_back_19 : decode prog_1_method_15_code 19 = .ok (.iaload, 1) := by decide +kernel
theorem d_rp_back_20 : decode prog_1_method_15_code 20 = .ok (.goto 4, 3) := by decide +kernel
theorem d_rp_back_23 : decode prog_1_method_15_code 23 = .ok (.iconst (-1), 1) := by decide +kernel
theorem d_rp_back_24 : decode prog_1_method_15_code 24 = .ok (.ireturn, 1) := by decide +kernel
theorem d_rp_saved_0 : decode prog_1_method_16_code 0 = .ok (.aload_n 0, 1) := by decide +kernel
theorem d_rp_saved_1 : decode prog_1_method_16_code 1 = .ok (.getfield 37, 3) := by decide +kernel
theorem d_rp_saved_4 : decode prog_1_method_16_code 4 = .ok (.iload_n 1, 1) := by decide +kernel
theorem d_rp_saved_5 : decode prog_1_method_16_code 5 = .ok (.invokevirtual 156, 3) := by decide +kernel
theorem d_rp_saved_8 : decode prog_1_method_16_code 8 = .ok (.ifCond .eq 15, 3) := by decide +kernel
theorem d_rp_saved_11 : decode prog_1_method_16_code 11 = .ok (.aload_n 0, 1) := by decide +kernel
theorem d_rp_saved_12 : decode prog_1_method_16_code 12 = .ok (.getfield 37, 3) := by decide +kernel
theorem d_rp_saved_15 : decode prog_1_method_16_code 15 = .ok (.getfield 129, 3) := by decide +kernel
theorem d_rp_saved_18 : decode prog_1_method_16_code 18 = .ok (.iload_n 1, 1) := by decide +kernel
theorem d_rp_saved_19 : decode prog_1_method_16_code 19 = .ok (.laload, 1) := by decide +kernel
theorem d_rp_saved_20 : decode prog_1_method_16_code 20 = .ok (.goto 6, 3) := by decide +kernel
theorem d_rp_saved_23 : decode prog_1_method_16_code 23 = .ok (.ldc2_w 169, 3) := by decide +kernel
theorem d_rp_saved_26 : decode prog_1_method_16_code 26 = .ok (.lreturn, 1) := by decide +kernel
theorem d_rp_isWithin_0 : decode prog_1_method_17_code 0 = .ok (.iload_n 0, 1) := by decide +kernel
theorem d_rp_isWithin_1 : decode prog_1_method_17_code 1 = .ok (.ifCond .lt 12, 3) := by decide +kernel
theorem d_rp_isWithin_4 : decode prog_1_method_17_code 4 = .ok (.iload_n 0, 1) := by decide +kernel
theorem d_rp_isWithin_5 : decode prog_1_method_17_code 5 = .ok (.iload_n 1, 1) := by decide +kernel
theorem d_rp_isWithin_6 : decode prog_1_method_17_code 6 = .ok (.if_icmp .gt 7, 3) := by decide +kernel
theorem d_rp_isWithin_9 : decode prog_1_method_17_code 9 = .ok (.iconst 1, 1) := by decide +kernel
theorem d_rp_isWithin_10 : decode prog_1_method_17_code 10 = .ok (.goto 4, 3) := by decide +kernel
theorem d_rp_isWithin_13 : decode prog_1_method_17_code 13 = .ok (.iconst 0, 1) := by decide +kernel
theorem d_rp_isWithin_14 : decode prog_1_method_17_code 14 = .ok (.ireturn, 1) := by decide +kernel
theorem d_rp_isSpan_0 : decode prog_1_method_18_code 0 = .ok (.iload_n 0, 1) := by decide +kernel
theorem d_rp_isSpan_1 : decode prog_1_method_18_code 1 = .ok (.ifCond .lt 18, 3) := by decide +kernel
theorem d_rp_isSpan_4 : decode prog_1_method_18_code 4 = .ok (.iload_n 0, 1) := by decide +kernel
theorem d_rp_isSpan_5 : decode prog_1_method_18_code 5 = .ok (.iload_n 1, 1) := by decide +kernel
theorem d_rp_isSpan_6 : decode prog_1_method_18_code 6 = .ok (.if_icmp .gt 13, 3) := by decide +kernel
theorem d_rp_isSpan_9 : decode prog_1_method_18_code 9 = .ok (.iload_n 1, 1) := by decide +kernel
theorem d_rp_isSpan_10 : decode prog_1_method_18_code 10 = .ok (.ldc 171, 2) := by decide +kernel
theorem d_rp_isSpan_12 : decode prog_1_method_18_code 12 = .ok (.if_icmp .gt 7, 3) := by decide +kernel
theorem d_rp_isSpan_15 : decode prog_1_method_18_code 15 = .ok (.iconst 1, 1) := by decide +kernel
theorem d_rp_isSpan_16 : decode prog_1_method_18_code 16 = .ok (.goto 4, 3) := by decide +kernel
theorem d_rp_isSpan_19 : decode prog_1_method_18_code 19 = .ok (.iconst 0, 1) := by decide +kernel
theorem d_rp_isSpan_20 : decode prog_1_method_18_code 20 = .ok (.ireturn, 1) := by decide +kernel
theorem d_rp_holds_0 : decode prog_1_method_19_code 0 = .ok (.iload_n 0, 1) := by decide +kernel
theorem d_rp_holds_1 : decode prog_1_method_19_code 1 = .ok (.iload_n 1, 1) := by decide +kernel
theorem d_rp_holds_2 : decode prog_1_method_19_code 2 = .ok (.ishr, 1) := by decide +kernel
theorem d_rp_holds_3 : decode prog_1_method_19_code 3 = .ok (.iconst 1, 1) := by decide +kernel
theorem d_rp_holds_4 : decode prog_1_method_19_code 4 = .ok (.iand, 1) := by decide +kernel
theorem d_rp_holds_5 : decode prog_1_method_19_code 5 = .ok (.ifCond .eq 7, 3) := by decide +kernel
theorem d_rp_holds_8 : decode prog_1_method_19_code 8 = .ok (.iconst 1, 1) := by decide +kernel
theorem d_rp_holds_9 : decode prog_1_method_19_code 9 = .ok (.goto 4, 3) := by decide +kernel
theorem d_rp_holds_12 : decode prog_1_method_19_code 12 = .ok (.iconst 0, 1) := by decide +kernel
theorem d_rp_holds_13 : decode prog_1_method_19_code 13 = .ok (.ireturn, 1) := by decide +kernel
theorem d_rp_with_0 : decode prog_1_method_20_code 0 = .ok (.iload_n 0, 1) := by decide +kernel
theorem d_rp_with_1 : decode prog_1_method_20_code 1 = .ok (.iconst 1, 1) := by decide +kernel
theorem d_rp_with_2 : decode prog_1_method_20_code 2 = .ok (.iload_n 1, 1) := by decide +kernel
theorem d_rp_with_3 : decode prog_1_method_20_code 3 = .ok (.ishl, 1) := by decide +kernel
theorem d_rp_with_4 : decode prog_1_method_20_code 4 = .ok (.ior, 1) := by decide +kernel
theorem d_rp_with_5 : decode prog_1_method_20_code 5 = .ok (.ireturn, 1) := by decide +kernel
theorem d_rp_without_0 : decode prog_1_method_21_code 0 = .ok (.iload_n 0, 1) := by decide +kernel
theorem d_rp_without_1 : decode prog_1_method_21_code 1 = .ok (.iconst 1, 1) := by decide +kernel
theorem d_rp_without_2 : decode prog_1_method_21_code 2 = .ok (.iload_n 1, 1) := by decide +kernel
theorem d_rp_without_3 : decode prog_1_method_21_code 3 = .ok (.ishl, 1) := by decide +kernel
theorem d_rp_without_4 : decode prog_1_method_21_code 4 = .ok (.iconst (-1), 1) := by decide +kernel
theorem d_rp_without_5 : decode prog_1_method_21_code 5 = .ok (.ixor, 1) := by decide +kernel
theorem d_rp_without_6 : decode prog_1_method_21_code 6 = .ok (.iand, 1) := by decide +kernel
theorem d_rp_without_7 : decode prog_1_method_21_code 7 = .ok (.ireturn, 1) := by decide +kernel
