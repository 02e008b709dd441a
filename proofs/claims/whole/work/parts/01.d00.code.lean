theorem d_V_init_0 : decode prog_1_method_1_code 0 = .ok (.aload_n 0, 1) := by decide +kernel
theorem d_V_init_1 : decode prog_1_method_1_code 1 = .ok (.invokespecial 1, 3) := by decide +kernel
theorem d_V_init_4 : decode prog_1_method_1_code 4 = .ok (.aload_n 0, 1) := by decide +kernel
theorem d_V_init_5 : decode prog_1_method_1_code 5 = .ok (.new 7, 3) := by decide +kernel
theorem d_V_init_8 : decode prog_1_method_1_code 8 = .ok (.dup, 1) := by decide +kernel
theorem d_V_init_9 : decode prog_1_method_1_code 9 = .ok (.invokespecial 9, 3) := by decide +kernel
theorem d_V_init_12 : decode prog_1_method_1_code 12 = .ok (.putfield 10, 3) := by decide +kernel
theorem d_V_init_15 : decode prog_1_method_1_code 15 = .ok (.aload_n 0, 1) := by decide +kernel
theorem d_V_init_16 : decode prog_1_method_1_code 16 = .ok (.bipush 6, 2) := by decide +kernel
theorem d_V_init_18 : decode prog_1_method_1_code 18 = .ok (.anewarray 16, 3) := by decide +kernel
theorem d_V_init_21 : decode prog_1_method_1_code 21 = .ok (.putfield 18, 3) := by decide +kernel
theorem d_V_init_24 : decode prog_1_method_1_code 24 = .ok (.iconst 0, 1) := by decide +kernel
theorem d_V_init_25 : decode prog_1_method_1_code 25 = .ok (.istore_n 1, 1) := by decide +kernel
theorem d_V_init_26 : decode prog_1_method_1_code 26 = .ok (.iload_n 1, 1) := by decide +kernel
theorem d_V_init_27 : decode prog_1_method_1_code 27 = .ok (.aload_n 0, 1) := by decide +kernel
theorem d_V_init_28 : decode prog_1_method_1_code 28 = .ok (.getfield 18, 3) := by decide +kernel
theorem d_V_init_31 : decode prog_1_method_1_code 31 = .ok (.arraylength, 1) := by decide +kernel
theorem d_V_init_32 : decode prog_1_method_1_code 32 = .ok (.if_icmp .ge 22, 3) := by decide +kernel
theorem d_V_init_35 : decode prog_1_method_1_code 35 = .ok (.aload_n 0, 1) := by decide +kernel
theorem d_V_init_36 : decode prog_1_method_1_code 36 = .ok (.getfield 18, 3) := by decide +kernel
theorem d_V_init_39 : decode prog_1_method_1_code 39 = .ok (.iload_n 1, 1) := by decide +kernel
theorem d_V_init_40 : decode prog_1_method_1_code 40 = .ok (.new 16, 3) := by decide +kernel
theorem d_V_init_43 : decode prog_1_method_1_code 43 = .ok (.dup, 1) := by decide +kernel
theorem d_V_init_44 : decode prog_1_method_1_code 44 = .ok (.invokespecial 22, 3) := by decide +kernel
theorem d_V_init_47 : decode prog_1_method_1_code 47 = .ok (.aastore, 1) := by decide +kernel
theorem d_V_init_48 : decode prog_1_method_1_code 48 = .ok (.iinc 1 1, 3) := by decide +kernel
theorem d_V_init_51 : decode prog_1_method_1_code 51 = .ok (.goto (-25), 3) := by decide +kernel
theorem d_V_init_54 : decode prog_1_method_1_code 54 = .ok (.aload_n 0, 1) := by decide +kernel
theorem d_V_init_55 : decode prog_1_method_1_code 55 = .ok (.new 23, 3) := by decide +kernel
theorem d_V_init_58 : decode prog_1_method_1_code 58 = .ok (.dup, 1) := by decide +kernel
theorem d_V_init_59 : decode prog_1_method_1_code 59 = .ok (.invokespecial 25, 3) := by decide +kernel
theorem d_V_init_62 : decode prog_1_method_1_code 62 = .ok (.putfield 26, 3) := by decide +kernel
theorem d_V_init_65 : decode prog_1_method_1_code 65 = .ok (.return_, 1) := by decide +kernel
theorem d_A_init_0 : decode prog_21_method_2_code 0 = .ok (.aload_n 0, 1) := by decide +kernel
theorem d_A_init_1 : decode prog_21_method_2_code 1 = .ok (.invokespecial 1, 3) := by decide +kernel
theorem d_A_init_4 : decode prog_21_method_2_code 4 = .ok (.aload_n 0, 1) := by decide +kernel
theorem d_A_init_5 : decode prog_21_method_2_code 5 = .ok (.getstatic 39, 3) := by decide +kernel
theorem d_A_init_8 : decode prog_21_method_2_code 8 = .ok (.putfield 9, 3) := by decide +kernel
theorem d_A_init_11 : decode prog_21_method_2_code 11 = .ok (.return_, 1) := by decide +kernel
theorem d_AL_init_0 : decode prog_20_method_1_code 0 = .ok (.aload_n 0, 1) := by decide +kernel
theorem d_AL_init_1 : decode prog_20_method_1_code 1 = .ok (.invokespecial 1, 3) := by decide +kernel
theorem d_AL_init_4 : decode prog_20_method_1_code 4 = .ok (.aload_n 0, 1) := by decide +kernel
theorem d_AL_init_5 : decode prog_20_method_1_code 5 = .ok (.iconst 0, 1) := by decide +kernel
theorem d_AL_init_6 : decode prog_20_method_1_code 6 = .ok (.putfield 7, 3) := by decide +kernel
theorem d_AL_init_9 : decode prog_20_method_1_code 9 = .ok (.return_, 1) := by decide +kernel
theorem d_AC_init_0 : decode prog_19_method_1_code 0 = .ok (.aload_n 0, 1) := by decide +kernel
theorem d_AC_init_1 : decode prog_19_method_1_code 1 = .ok (.invokespecial 1, 3) := by decide +kernel
theorem d_AC_init_4 : decode prog_19_method_1_code 4 = .ok (.return_, 1) := by decide +kernel
theorem d_U_init_0 : decode prog_3_method_1_code 0 = .ok (.aload_n 0, 1) := by decide +kernel
theorem d_U_init_1 : decode prog_3_method_1_code 1 = .ok (.invokespecial 3, 3) := by decide +kernel
theorem d_U_init_4 : decode prog_3_method_1_code 4 = .ok (.return_, 1) := by decide +kernel
theorem d_G_init_0 : decode prog_2_method_1_code 0 = .ok (.aload_n 0, 1) := by decide +kernel
theorem d_G_init_1 : decode prog_2_method_1_code 1 = .ok (.invokespecial 1, 3) := by decide +kernel
theorem d_G_init_4 : decode prog_2_method_1_code 4 = .ok (.aload_n 0, 1) := by decide +kernel
theorem d_G_init_5 : decode prog_2_method_1_code 5 = .ok (.sipush 256, 3) := by decide +kernel
theorem d_G_init_8 : decode prog_2_method_1_code 8 = .ok (.newarray .int, 2) := by decide +kernel
theorem d_G_init_10 : decode prog_2_method_1_code 10 = .ok (.putfield 9, 3) := by decide +kernel
theorem d_G_init_13 : decode prog_2_method_1_code 13 = .ok (.aload_n 0, 1) := by decide +kernel
theorem d_G_init_14 : decode prog_2_method_1_code 14 = .ok (.ldc2_w 13, 3) := by decide +kernel
theorem d_G_init_17 : decode prog_2_method_1_code 17 = .ok (.putfield 15, 3) := by decide +kernel
theorem d_G_init_20 : decode prog_2_method_1_code 20 = .ok (.return_, 1) := by decide +kernel
theorem d_V_link_0 : decode prog_1_method_15_code 0 = .ok (.aload_n 0, 1) := by decide +kernel
theorem d_V_link_1 : decode prog_1_method_15_code 1 = .ok (.getfield 26, 3) := by decide +kernel
theorem d_V_link_4 : decode prog_1_method_15_code 4 = .ok (.getfield 184, 3) := by decide +kernel
theorem d_V_link_7 : decode prog_1_method_15_code 7 = .ok (.lreturn, 1) := by decide +kernel
theorem d_W_put_0 : decode method_3_code 0 = .ok (.aload 4, 2) := by decide +kernel
theorem d_W_put_2 : decode method_3_code 2 = .ok (.iconst 0, 1) := by decide +kernel
theorem d_W_put_3 : decode method_3_code 3 = .ok (.aload_n 0, 1) := by decide +kernel
theorem d_W_put_4 : decode method_3_code 4 = .ok (.iload_n 1, 1) := by decide +kernel
theorem d_W_put_5 : decode method_3_code 5 = .ok (.iload_n 2, 1) := by decide +kernel
theorem d_W_put_6 : decode method_3_code 6 = .ok (.iload_n 3, 1) := by decide +kernel
theorem d_W_put_7 : decode method_3_code 7 = .ok (.invokevirtual 7, 3) := by decide +kernel
theorem d_W_put_10 : decode method_3_code 10 = .ok (.i2l, 1) := by decide +kernel
theorem d_W_put_11 : decode method_3_code 11 = .ok (.lastore, 1) := by decide +kernel
theorem d_W_put_12 : decode method_3_code 12 = .ok (.goto 11, 3) := by decide +kernel
theorem d_W_put_15 : decode method_3_code 15 = .ok (.astore 5, 2) := by decide +kernel
theorem d_W_put_17 : decode method_3_code 17 = .ok (.iconst 1, 1) := by decide +kernel
theorem d_W_put_18 : decode method_3_code 18 = .ok (.ireturn, 1) := by decide +kernel
theorem d_W_put_19 : decode method_3_code 19 = .ok (.astore 5, 2) := by decide +kernel
theorem d_W_put_21 : decode method_3_code 21 = .ok (.iconst 2, 1) := by decide +kernel
theorem d_W_put_22 : decode method_3_code 22 = .ok (.ireturn, 1) := by decide +kernel
theorem d_W_put_23 : decode method_3_code 23 = .ok (.iconst 0, 1) := by decide +kernel
theorem d_W_put_24 : decode method_3_code 24 = .ok (.ireturn, 1) := by decide +kernel
theorem d_V_put_0 : decode prog_1_method_2_code 0 = .ok (.iload_n 2, 1) := by decide +kernel
theorem d_V_put_1 : decode prog_1_method_2_code 1 = .ok (.iconst 1, 1) := by decide +kernel
theorem d_V_put_2 : decode prog_1_method_2_code 2 = .ok (.ldc 30, 2) := by decide +kernel
theorem d_V_put_4 : decode prog_1_method_2_code 4 = .ok (.invokestatic 31, 3) := by decide +kernel
theorem d_V_put_7 : decode prog_1_method_2_code 7 = .ok (.ifCond .eq 16, 3) := by decide +kernel
theorem d_V_put_10 : decode prog_1_method_2_code 10 = .ok (.iload_n 3, 1) := by decide +kernel
theorem d_V_put_11 : decode prog_1_method_2_code 11 = .ok (.iconst 0, 1) := by decide +kernel
theorem d_V_put_12 : decode prog_1_method_2_code 12 = .ok (.iconst 3, 1) := by decide +kernel
theorem d_V_put_13 : decode prog_1_method_2_code 13 = .ok (.invokestatic 31, 3) := by decide +kernel
theorem d_V_put_16 : decode prog_1_method_2_code 16 = .ok (.ifCond .eq 7, 3) := by decide +kernel
theorem d_V_put_19 : decode prog_1_method_2_code 19 = .ok (.iconst 1, 1) := by decide +kernel
theorem d_V_put_20 : decode prog_1_method_2_code 20 = .ok (.goto 4, 3) := by decide +kernel
theorem d_V_put_23 : decode prog_1_method_2_code 23 = .ok (.iconst 0, 1) := by decide +kernel
theorem d_V_put_24 : decode prog_1_method_2_code 24 = .ok (.invokestatic 35, 3) := by decide +kernel
theorem d_V_put_27 : decode prog_1_method_2_code 27 = .ok (.aload_n 0, 1) := by decide +kernel
theorem d_V_put_28 : decode prog_1_method_2_code 28 = .ok (.invokevirtual 39, 3) := by decide +kernel
theorem d_V_put_31 : decode prog_1_method_2_code 31 = .ok (.new 42, 3) := by decide +kernel
theorem d_V_put_34 : decode prog_1_method_2_code 34 = .ok (.dup, 1) := by decide +kernel
theorem d_V_put_35 : decode prog_1_method_2_code 35 = .ok (.aload_n 0, 1) := by decide +kernel
theorem d_V_put_36 : decode prog_1_method_2_code 36 = .ok (.getfield 44, 3) := by decide +kernel
theorem d_V_put_39 : decode prog_1_method_2_code 39 = .ok (.iload_n 1, 1) := by decide +kernel
theorem d_V_put_40 : decode prog_1_method_2_code 40 = .ok (.aload_n 0, 1) := by decide +kernel
theorem d_V_put_41 : decode prog_1_method_2_code 41 = .ok (.getfield 48, 3) := by decide +kernel
theorem d_V_put_44 : decode prog_1_method_2_code 44 = .ok (.invokespecial 51, 3) := by decide +kernel
theorem d_V_put_47 : decode prog_1_method_2_code 47 = .ok (.astore 4, 2) := by decide +kernel
theorem d_V_put_49 : decode prog_1_method_2_code 49 = .ok (.aload 4, 2) := by decide +kernel
theorem d_V_put_51 : decode prog_1_method_2_code 51 = .ok (.iload_n 2, 1) := by decide +kernel
theorem d_V_put_52 : decode prog_1_method_2_code 52 = .ok (.iload_n 3, 1) := by decide +kernel
theorem d_V_put_53 : decode prog_1_method_2_code 53 = .ok (.invokevirtual 54, 3) := by decide +kernel
theorem d_V_put_56 : decode prog_1_method_2_code 56 = .ok (.aload_n 0, 1) := by decide +kernel
theorem d_V_put_57 : decode prog_1_method_2_code 57 = .ok (.aload 4, 2) := by decide +kernel
theorem d_V_put_59 : decode prog_1_method_2_code 59 = .ok (.invokevirtual 58, 3) := by decide +kernel
theorem d_V_put_62 : decode prog_1_method_2_code 62 = .ok (.ireturn, 1) := by decide +kernel
theorem d_V_isWithin_0 : decode prog_1_method_17_code 0 = .ok (.iload_n 1, 1) := by decide +kernel
theorem d_V_isWithin_1 : decode prog_1_method_17_code 1 = .ok (.iload_n 0, 1) := by decide +kernel
theorem d_V_isWithin_2 : decode prog_1_method_17_code 2 = .ok (.if_icmp .gt 12, 3) := by decide +kernel
theorem d_V_isWithin_5 : decode prog_1_method_17_code 5 = .ok (.iload_n 0, 1) := by decide +kernel
theorem d_V_isWithin_6 : decode prog_1_method_17_code 6 = .ok (.iload_n 2, 1) := by decide +kernel
theorem d_V_isWithin_7 : decode prog_1_method_17_code 7 = .ok (.if_icmp .gt 7, 3) := by decide +kernel
theorem d_V_isWithin_10 : decode prog_1_method_17_code 10 = .ok (.iconst 1, 1) := by decide +kernel
theorem d_V_isWithin_11 : decode prog_1_method_17_code 11 = .ok (.goto 4, 3) := by decide +kernel
theorem d_V_isWithin_14 : decode prog_1_method_17_code 14 = .ok (.iconst 0, 1) := by decide +kernel
theorem d_V_isWithin_15 : decode prog_1_method_17_code 15 = .ok (.ireturn, 1) := by decide +kernel
theorem d_V_demand_0 : decode prog_1_method_18_code 0 = .ok (.iload_n 0, 1) := by decide +kernel
theorem d_V_demand_1 : decode prog_1_method_18_code 1 = .ok (.ifCond .ne 13, 3) := by decide +kernel
theorem d_V_demand_4 : decode prog_1_method_18_code 4 = .ok (.new 167, 3) := by decide +kernel
theorem d_V_demand_7 : decode prog_1_method_18_code 7 = .ok (.dup, 1) := by decide +kernel
theorem d_V_demand_8 : decode prog_1_method_18_code 8 = .ok (.ldc 198, 2) := by decide +kernel
theorem d_V_demand_10 : decode prog_1_method_18_code 10 = .ok (.invokespecial 171, 3) := by decide +kernel
theorem d_V_demand_13 : decode prog_1_method_18_code 13 = .ok (.athrow, 1) := by decide +kernel
theorem d_V_demand_14 : decode prog_1_method_18_code 14 = .ok (.return_, 1) := by decide +kernel
theorem d_V_demandRoom_0 : decode prog_1_method_19_code 0 = .ok (.aload_n 0, 1) := by decide +kernel
theorem d_V_demandRoom_1 : decode prog_1_method_19_code 1 = .ok (.invokevirtual 200, 3) := by decide +kernel
theorem d_V_demandRoom_4 : decode prog_1_method_19_code 4 = .ok (.ifCond .eq 13, 3) := by decide +kernel
theorem d_V_demandRoom_7 : decode prog_1_method_19_code 7 = .ok (.new 80, 3) := by decide +kernel
theorem d_V_demandRoom_10 : decode prog_1_method_19_code 10 = .ok (.dup, 1) := by decide +kernel
theorem d_V_demandRoom_11 : decode prog_1_method_19_code 11 = .ok (.ldc 203, 2) := by decide +kernel
theorem d_V_demandRoom_13 : decode prog_1_method_19_code 13 = .ok (.invokespecial 84, 3) := by decide +kernel
theorem d_V_demandRoom_16 : decode prog_1_method_19_code 16 = .ok (.athrow, 1) := by decide +kernel
theorem d_V_demandRoom_17 : decode prog_1_method_19_code 17 = .ok (.return_, 1) := by decide +kernel
theorem d_V_isFull_0 : decode prog_1_method_20_code 0 = .ok (.aload_n 0, 1) := by decide +kernel
theorem d_V_isFull_1 : decode prog_1_method_20_code 1 = .ok (.getfield 10, 3) := by decide +kernel
theorem d_V_isFull_4 : decode prog_1_method_20_code 4 = .ok (.invokevirtual 188, 3) := by decide +kernel
theorem d_V_isFull_7 : decode prog_1_method_20_code 7 = .ok (.bipush 40, 2) := by decide +kernel
theorem d_V_isFull_9 : decode prog_1_method_20_code 9 = .ok (.if_icmp .lt 7, 3) := by decide +kernel
theorem d_V_isFull_12 : decode prog_1_method_20_code 12 = .ok (.iconst 1, 1) := by decide +kernel
theorem d_V_isFull_13 : decode prog_1_method_20_code 13 = .ok (.goto 4, 3) := by decide +kernel
theorem d_V_isFull_16 : decode prog_1_method_20_code 16 = .ok (.iconst 0, 1) := by decide +kernel
theorem d_V_isFull_17 : decode prog_1_method_20_code 17 = .ok (.ireturn, 1) := by decide +kernel
theorem d_A_size_0 : decode prog_21_method_8_code 0 = .ok (.aload_n 0, 1) := by decide +kernel
theorem d_A_size_1 : decode prog_21_method_8_code 1 = .ok (.getfield 48, 3) := by decide +kernel
theorem d_A_size_4 : decode prog_21_method_8_code 4 = .ok (.ireturn, 1) := by decide +kernel
theorem d_N_init_0 : decode prog_4_method_1_code 0 = .ok (.aload_n 0, 1) := by decide +kernel
theorem d_N_init_1 : decode prog_4_method_1_code 1 = .ok (.invokespecial 3, 3) := by decide +kernel
theorem d_N_init_4 : decode prog_4_method_1_code 4 = .ok (.aload_n 0, 1) := by decide +kernel
theorem d_N_init_5 : decode prog_4_method_1_code 5 = .ok (.iload_n 1, 1) := by decide +kernel
theorem d_N_init_6 : decode prog_4_method_1_code 6 = .ok (.putfield 9, 3) := by decide +kernel
theorem d_N_init_9 : decode prog_4_method_1_code 9 = .ok (.aload_n 0, 1) := by decide +kernel
theorem d_N_init_10 : decode prog_4_method_1_code 10 = .ok (.iload_n 2, 1) := by decide +kernel
theorem d_N_init_11 : decode prog_4_method_1_code 11 = .ok (.putfield 15, 3) := by decide +kernel
theorem d_N_init_14 : decode prog_4_method_1_code 14 = .ok (.aload_n 0, 1) := by decide +kernel
theorem d_N_init_15 : decode prog_4_method_1_code 15 = .ok (.iload_n 3, 1) := by decide +kernel
theorem d_N_init_16 : decode prog_4_method_1_code 16 = .ok (.putfield 18, 3) := by decide +kernel
theorem d_N_init_19 : decode prog_4_method_1_code 19 = .ok (.aload_n 0, 1) := by decide +kernel
theorem d_N_init_20 : decode prog_4_method_1_code 20 = .ok (.iconst (-1), 1) := by decide +kernel
theorem d_N_init_21 : decode prog_4_method_1_code 21 = .ok (.putfield 21, 3) := by decide +kernel
theorem d_N_init_24 : decode prog_4_method_1_code 24 = .ok (.aload_n 0, 1) := by decide +kernel
theorem d_N_init_25 : decode prog_4_method_1_code 25 = .ok (.iconst 1, 1) := by decide +kernel
theorem d_N_init_26 : decode prog_4_method_1_code 26 = .ok (.putfield 24, 3) := by decide +kernel
theorem d_N_init_29 : decode prog_4_method_1_code 29 = .ok (.return_, 1) := by decide +kernel
theorem d_N_makeObject_0 : decode prog_4_method_2_code 0 = .ok (.aload_n 0, 1) := by decide +kernel
theorem d_N_makeObject_1 : decode prog_4_method_2_code 1 = .ok (.iload_n 1, 1) := by decide +kernel
theorem d_N_makeObject_2 : decode prog_4_method_2_code 2 = .ok (.putfield 28, 3) := by decide +kernel
theorem d_N_makeObject_5 : decode prog_4_method_2_code 5 = .ok (.aload_n 0, 1) := by decide +kernel
theorem d_N_makeObject_6 : decode prog_4_method_2_code 6 = .ok (.iload_n 2, 1) := by decide +kernel
theorem d_N_makeObject_7 : decode prog_4_method_2_code 7 = .ok (.putfield 31, 3) := by decide +kernel
theorem d_N_makeObject_10 : decode prog_4_method_2_code 10 = .ok (.aload_n 0, 1) := by decide +kernel
theorem d_N_makeObject_11 : decode prog_4_method_2_code 11 = .ok (.iconst 0, 1) := by decide +kernel
theorem d_N_makeObject_12 : decode prog_4_method_2_code 12 = .ok (.putfield 21, 3) := by decide +kernel
theorem d_N_makeObject_15 : decode prog_4_method_2_code 15 = .ok (.return_, 1) := by decide +kernel
theorem d_V_add_0 : decode prog_1_method_25_code 0 = .ok (.aload_n 0, 1) := by decide +kernel
theorem d_V_add_1 : decode prog_1_method_25_code 1 = .ok (.aload_n 1, 1) := by decide +kernel
theorem d_V_add_2 : decode prog_1_method_25_code 2 = .ok (.getfield 91, 3) := by decide +kernel
theorem d_V_add_5 : decode prog_1_method_25_code 5 = .ok (.invokevirtual 219, 3) := by decide +kernel
theorem d_V_add_8 : decode prog_1_method_25_code 8 = .ok (.astore_n 2, 1) := by decide +kernel
theorem d_V_add_9 : decode prog_1_method_25_code 9 = .ok (.aload_n 2, 1) := by decide +kernel
theorem d_V_add_10 : decode prog_1_method_25_code 10 = .ok (.ifnull 16, 3) := by decide +kernel
theorem d_V_add_13 : decode prog_1_method_25_code 13 = .ok (.aload_n 2, 1) := by decide +kernel
theorem d_V_add_14 : decode prog_1_method_25_code 14 = .ok (.iconst 0, 1) := by decide +kernel
theorem d_V_add_15 : decode prog_1_method_25_code 15 = .ok (.putfield 161, 3) := by decide +kernel
theorem d_V_add_18 : decode prog_1_method_25_code 18 = .ok (.aload_n 2, 1) := by decide +kernel
theorem d_V_add_19 : decode prog_1_method_25_code 19 = .ok (.aload_n 0, 1) := by decide +kernel
theorem d_V_add_20 : decode prog_1_method_25_code 20 = .ok (.getfield 48, 3) := by decide +kernel
theorem d_V_add_23 : decode prog_1_method_25_code 23 = .ok (.putfield 224, 3) := by decide +kernel
theorem d_V_add_26 : decode prog_1_method_25_code 26 = .ok (.aload_n 0, 1) := by decide +kernel
theorem d_V_add_27 : decode prog_1_method_25_code 27 = .ok (.getfield 10, 3) := by decide +kernel
theorem d_V_add_30 : decode prog_1_method_25_code 30 = .ok (.aload_n 1, 1) := by decide +kernel
theorem d_V_add_31 : decode prog_1_method_25_code 31 = .ok (.invokevirtual 227, 3) := by decide +kernel
theorem d_V_add_34 : decode prog_1_method_25_code 34 = .ok (.pop, 1) := by decide +kernel
theorem d_V_add_35 : decode prog_1_method_25_code 35 = .ok (.aload_n 0, 1) := by decide +kernel
theorem d_V_add_36 : decode prog_1_method_25_code 36 = .ok (.dup, 1) := by decide +kernel
theorem d_V_add_37 : decode prog_1_method_25_code 37 = .ok (.getfield 44, 3) := by decide +kernel
theorem d_V_add_40 : decode prog_1_method_25_code 40 = .ok (.iconst 1, 1) := by decide +kernel
theorem d_V_add_41 : decode prog_1_method_25_code 41 = .ok (.iadd, 1) := by decide +kernel
theorem d_V_add_42 : decode prog_1_method_25_code 42 = .ok (.putfield 44, 3) := by decide +kernel
theorem d_V_add_45 : decode prog_1_method_25_code 45 = .ok (.aload_n 0, 1) := by decide +kernel
theorem d_V_add_46 : decode prog_1_method_25_code 46 = .ok (.getfield 26, 3) := by decide +kernel
theorem d_V_add_49 : decode prog_1_method_25_code 49 = .ok (.aload_n 0, 1) := by decide +kernel
theorem d_V_add_50 : decode prog_1_method_25_code 50 = .ok (.getfield 48, 3) := by decide +kernel
theorem d_V_add_53 : decode prog_1_method_25_code 53 = .ok (.aload_n 1, 1) := by decide +kernel
theorem d_V_add_54 : decode prog_1_method_25_code 54 = .ok (.invokevirtual 214, 3) := by decide +kernel
theorem d_V_add_57 : decode prog_1_method_25_code 57 = .ok (.ifCond .eq 7, 3) := by decide +kernel
theorem d_V_add_60 : decode prog_1_method_25_code 60 = .ok (.iconst 2, 1) := by decide +kernel
theorem d_V_add_61 : decode prog_1_method_25_code 61 = .ok (.goto 4, 3) := by decide +kernel
theorem d_V_add_64 : decode prog_1_method_25_code 64 = .ok (.iconst 1, 1) := by decide +kernel
theorem d_V_add_65 : decode prog_1_method_25_code 65 = .ok (.aload_n 1, 1) := by decide +kernel
theorem d_V_add_66 : decode prog_1_method_25_code 66 = .ok (.getfield 106, 3) := by decide +kernel
theorem d_V_add_69 : decode prog_1_method_25_code 69 = .ok (.aload_n 1, 1) := by decide +kernel
theorem d_V_add_70 : decode prog_1_method_25_code 70 = .ok (.getfield 91, 3) := by decide +kernel
theorem d_V_add_73 : decode prog_1_method_25_code 73 = .ok (.invokevirtual 109, 3) := by decide +kernel
theorem d_V_add_76 : decode prog_1_method_25_code 76 = .ok (.aload_n 1, 1) := by decide +kernel
theorem d_V_add_77 : decode prog_1_method_25_code 77 = .ok (.getfield 106, 3) := by decide +kernel
theorem d_V_add_80 : decode prog_1_method_25_code 80 = .ok (.ireturn, 1) := by decide +kernel
theorem d_V_latestOf_0 : decode prog_1_method_24_code 0 = .ok (.aload_n 0, 1) := by decide +kernel
theorem d_V_latestOf_1 : decode prog_1_method_24_code 1 = .ok (.getfield 10, 3) := by decide +kernel
theorem d_V_latestOf_4 : decode prog_1_method_24_code 4 = .ok (.invokevirtual 188, 3) := by decide +kernel
theorem d_V_latestOf_7 : decode prog_1_method_24_code 7 = .ok (.iconst 1, 1) := by decide +kernel
theorem d_V_latestOf_8 : decode prog_1_method_24_code 8 = .ok (.isub, 1) := by decide +kernel
theorem d_V_latestOf_9 : decode prog_1_method_24_code 9 = .ok (.istore_n 2, 1) := by decide +kernel
theorem d_V_latestOf_10 : decode prog_1_method_24_code 10 = .ok (.iload_n 2, 1) := by decide +kernel
theorem d_V_latestOf_11 : decode prog_1_method_24_code 11 = .ok (.ifCond .lt 31, 3) := by decide +kernel
theorem d_V_latestOf_14 : decode prog_1_method_24_code 14 = .ok (.aload_n 0, 1) := by decide +kernel
theorem d_V_latestOf_15 : decode prog_1_method_24_code 15 = .ok (.getfield 10, 3) := by decide +kernel
theorem d_V_latestOf_18 : decode prog_1_method_24_code 18 = .ok (.iload_n 2, 1) := by decide +kernel
theorem d_V_latestOf_19 : decode prog_1_method_24_code 19 = .ok (.invokevirtual 205, 3) := by decide +kernel
theorem d_V_latestOf_22 : decode prog_1_method_24_code 22 = .ok (.checkcast 42, 3) := by decide +kernel
theorem d_V_latestOf_25 : decode prog_1_method_24_code 25 = .ok (.astore_n 3, 1) := by decide +kernel
theorem d_V_latestOf_26 : decode prog_1_method_24_code 26 = .ok (.aload_n 3, 1) := by decide +kernel
theorem d_V_latestOf_27 : decode prog_1_method_24_code 27 = .ok (.getfield 91, 3) := by decide +kernel
theorem d_V_latestOf_30 : decode prog_1_method_24_code 30 = .ok (.iload_n 1, 1) := by decide +kernel
theorem d_V_latestOf_31 : decode prog_1_method_24_code 31 = .ok (.if_icmp .ne 5, 3) := by decide +kernel
theorem d_V_latestOf_34 : decode prog_1_method_24_code 34 = .ok (.aload_n 3, 1) := by decide +kernel
theorem d_V_latestOf_35 : decode prog_1_method_24_code 35 = .ok (.areturn, 1) := by decide +kernel
theorem d_V_latestOf_36 : decode prog_1_method_24_code 36 = .ok (.iinc 2 (-1), 3) := by decide +kernel
theorem d_V_latestOf_39 : decode prog_1_method_24_code 39 = .ok (.goto (-29), 3) := by decide +kernel
theorem d_V_latestOf_42 : decode prog_1_method_24_code 42 = .ok (.aconst_null, 1) := by decide +kernel
theorem d_V_latestOf_43 : decode prog_1_method_24_code 43 = .ok (.areturn, 1) := by decide +kernel
theorem d_A_get_0 : decode prog_21_method_20_code 0 = .ok (.iload_n 1, 1) := by decide +kernel
theorem d_A_get_1 : decode prog_21_method_20_code 1 = .ok (.aload_n 0, 1) := by decide +kernel
theorem d_A_get_2 : decode prog_21_method_20_code 2 = .ok (.getfield 48, 3) := by decide +kernel
theorem d_A_get_5 : decode prog_21_method_20_code 5 = .ok (.invokestatic 118, 3) := by decide +kernel
theorem d_A_get_8 : decode prog_21_method_20_code 8 = .ok (.pop, 1) := by decide +kernel
theorem d_A_get_9 : decode prog_21_method_20_code 9 = .ok (.aload_n 0, 1) := by decide +kernel
theorem d_A_get_10 : decode prog_21_method_20_code 10 = .ok (.iload_n 1, 1) := by decide +kernel
theorem d_A_get_11 : decode prog_21_method_20_code 11 = .ok (.invokevirtual 123, 3) := by decide +kernel
theorem d_A_get_14 : decode prog_21_method_20_code 14 = .ok (.areturn, 1) := by decide +kernel
theorem d_OB_checkIndex_0 : decode prog_26_method_17_code 0 = .ok (.iload_n 0, 1) := by decide +kernel
theorem d_OB_checkIndex_1 : decode prog_26_method_17_code 1 = .ok (.iload_n 1, 1) := by decide +kernel
theorem d_OB_checkIndex_2 : decode prog_26_method_17_code 2 = .ok (.aconst_null, 1) := by decide +kernel
theorem d_OB_checkIndex_3 : decode prog_26_method_17_code 3 = .ok (.invokestatic 105, 3) := by decide +kernel
theorem d_OB_checkIndex_6 : decode prog_26_method_17_code 6 = .ok (.ireturn, 1) := by decide +kernel
theorem d_PC_checkIndex_0 : decode prog_30_method_11_code 0 = .ok (.iload_n 0, 1) := by decide +kernel
theorem d_PC_checkIndex_1 : decode prog_30_method_11_code 1 = .ok (.ifCond .lt 8, 3) := by decide +kernel
theorem d_PC_checkIndex_4 : decode prog_30_method_11_code 4 = .ok (.iload_n 0, 1) := by decide +kernel
theorem d_PC_checkIndex_5 : decode prog_30_method_11_code 5 = .ok (.iload_n 1, 1) := by decide +kernel
theorem d_PC_checkIndex_6 : decode prog_30_method_11_code 6 = .ok (.if_icmp .lt 10, 3) := by decide +kernel
theorem d_PC_checkIndex_9 : decode prog_30_method_11_code 9 = .ok (.aload_n 2, 1) := by decide +kernel
theorem d_PC_checkIndex_10 : decode prog_30_method_11_code 10 = .ok (.iload_n 0, 1) := by decide +kernel
theorem d_PC_checkIndex_11 : decode prog_30_method_11_code 11 = .ok (.iload_n 1, 1) := by decide +kernel
theorem d_PC_checkIndex_12 : decode prog_30_method_11_code 12 = .ok (.invokestatic 95, 3) := by decide +kernel
theorem d_PC_checkIndex_15 : decode prog_30_method_11_code 15 = .ok (.athrow, 1) := by decide +kernel
theorem d_PC_checkIndex_16 : decode prog_30_method_11_code 16 = .ok (.iload_n 0, 1) := by decide +kernel
theorem d_PC_checkIndex_17 : decode prog_30_method_11_code 17 = .ok (.ireturn, 1) := by decide +kernel
theorem d_A_elementData_0 : decode prog_21_method_18_code 0 = .ok (.aload_n 0, 1) := by decide +kernel
theorem d_A_elementData_1 : decode prog_21_method_18_code 1 = .ok (.getfield 9, 3) := by decide +kernel
theorem d_A_elementData_4 : decode prog_21_method_18_code 4 = .ok (.iload_n 1, 1) := by decide +kernel
theorem d_A_elementData_5 : decode prog_21_method_18_code 5 = .ok (.aaload, 1) := by decide +kernel
theorem d_A_elementData_6 : decode prog_21_method_18_code 6 = .ok (.areturn, 1) := by decide +kernel
theorem d_A_add0_0 : decode prog_21_method_25_code 0 = .ok (.aload_n 0, 1) := by decide +kernel
theorem d_A_add0_1 : decode prog_21_method_25_code 1 = .ok (.dup, 1) := by decide +kernel
theorem d_A_add0_2 : decode prog_21_method_25_code 2 = .ok (.getfield 63, 3) := by decide +kernel
theorem d_A_add0_5 : decode prog_21_method_25_code 5 = .ok (.iconst 1, 1) := by decide +kernel
theorem d_A_add0_6 : decode prog_21_method_25_code 6 = .ok (.iadd, 1) := by decide +kernel
theorem d_A_add0_7 : decode prog_21_method_25_code 7 = .ok (.putfield 63, 3) := by decide +kernel
theorem d_A_add0_10 : decode prog_21_method_25_code 10 = .ok (.aload_n 0, 1) := by decide +kernel
theorem d_A_add0_11 : decode prog_21_method_25_code 11 = .ok (.aload_n 1, 1) := by decide +kernel
theorem d_A_add0_12 : decode prog_21_method_25_code 12 = .ok (.aload_n 0, 1) := by decide +kernel
theorem d_A_add0_13 : decode prog_21_method_25_code 13 = .ok (.getfield 9, 3) := by decide +kernel
theorem d_A_add0_16 : decode prog_21_method_25_code 16 = .ok (.aload_n 0, 1) := by decide +kernel
theorem d_A_add0_17 : decode prog_21_method_25_code 17 = .ok (.getfield 48, 3) := by decide +kernel
theorem d_A_add0_20 : decode prog_21_method_25_code 20 = .ok (.invokevirtual 131, 3) := by decide +kernel
theorem d_A_add0_23 : decode prog_21_method_25_code 23 = .ok (.iconst 1, 1) := by decide +kernel
theorem d_A_add0_24 : decode prog_21_method_25_code 24 = .ok (.ireturn, 1) := by decide +kernel
theorem d_A_add1_0 : decode prog_21_method_24_code 0 = .ok (.iload_n 3, 1) := by decide +kernel
theorem d_A_add1_1 : decode prog_21_method_24_code 1 = .ok (.aload_n 2, 1) := by decide +kernel
theorem d_A_add1_2 : decode prog_21_method_24_code 2 = .ok (.arraylength, 1) := by decide +kernel
theorem d_A_add1_3 : decode prog_21_method_24_code 3 = .ok (.if_icmp .ne 8, 3) := by decide +kernel
theorem d_A_add1_6 : decode prog_21_method_24_code 6 = .ok (.aload_n 0, 1) := by decide +kernel
theorem d_A_add1_7 : decode prog_21_method_24_code 7 = .ok (.invokevirtual 129, 3) := by decide +kernel
theorem d_A_add1_10 : decode prog_21_method_24_code 10 = .ok (.astore_n 2, 1) := by decide +kernel
theorem d_A_add1_11 : decode prog_21_method_24_code 11 = .ok (.aload_n 2, 1) := by decide +kernel
theorem d_A_add1_12 : decode prog_21_method_24_code 12 = .ok (.iload_n 3, 1) := by decide +kernel
theorem d_A_add1_13 : decode prog_21_method_24_code 13 = .ok (.aload_n 1, 1) := by decide +kernel
theorem d_A_add1_14 : decode prog_21_method_24_code 14 = .ok (.aastore, 1) := by decide +kernel
theorem d_A_add1_15 : decode prog_21_method_24_code 15 = .ok (.aload_n 0, 1) := by decide +kernel
theorem d_A_add1_16 : decode prog_21_method_24_code 16 = .ok (.iload_n 3, 1) := by decide +kernel
theorem d_A_add1_17 : decode prog_21_method_24_code 17 = .ok (.iconst 1, 1) := by decide +kernel
theorem d_A_add1_18 : decode prog_21_method_24_code 18 = .ok (.iadd, 1) := by decide +kernel
theorem d_A_add1_19 : decode prog_21_method_24_code 19 = .ok (.putfield 48, 3) := by decide +kernel
theorem d_A_add1_22 : decode prog_21_method_24_code 22 = .ok (.return_, 1) := by decide +kernel
theorem d_A_grow0_0 : decode prog_21_method_7_code 0 = .ok (.aload_n 0, 1) := by decide +kernel
theorem d_A_grow0_1 : decode prog_21_method_7_code 1 = .ok (.aload_n 0, 1) := by decide +kernel
theorem d_A_grow0_2 : decode prog_21_method_7_code 2 = .ok (.getfield 48, 3) := by decide +kernel
theorem d_A_grow0_5 : decode prog_21_method_7_code 5 = .ok (.iconst 1, 1) := by decide +kernel
theorem d_A_grow0_6 : decode prog_21_method_7_code 6 = .ok (.iadd, 1) := by decide +kernel
theorem d_A_grow0_7 : decode prog_21_method_7_code 7 = .ok (.invokevirtual 69, 3) := by decide +kernel
theorem d_A_grow0_10 : decode prog_21_method_7_code 10 = .ok (.areturn, 1) := by decide +kernel
theorem d_A_grow1_0 : decode prog_21_method_6_code 0 = .ok (.aload_n 0, 1) := by decide +kernel
theorem d_A_grow1_1 : decode prog_21_method_6_code 1 = .ok (.getfield 9, 3) := by decide +kernel
theorem d_A_grow1_4 : decode prog_21_method_6_code 4 = .ok (.arraylength, 1) := by decide +kernel
theorem d_A_grow1_5 : decode prog_21_method_6_code 5 = .ok (.istore_n 2, 1) := by decide +kernel
theorem d_A_grow1_6 : decode prog_21_method_6_code 6 = .ok (.iload_n 2, 1) := by decide +kernel
theorem d_A_grow1_7 : decode prog_21_method_6_code 7 = .ok (.ifCond .gt 13, 3) := by decide +kernel
theorem d_A_grow1_10 : decode prog_21_method_6_code 10 = .ok (.aload_n 0, 1) := by decide +kernel
theorem d_A_grow1_11 : decode prog_21_method_6_code 11 = .ok (.getfield 9, 3) := by decide +kernel
theorem d_A_grow1_14 : decode prog_21_method_6_code 14 = .ok (.getstatic 39, 3) := by decide +kernel
theorem d_A_grow1_17 : decode prog_21_method_6_code 17 = .ok (.if_acmp .eq 28, 3) := by decide +kernel
theorem d_A_grow1_20 : decode prog_21_method_6_code 20 = .ok (.iload_n 2, 1) := by decide +kernel
theorem d_A_grow1_21 : decode prog_21_method_6_code 21 = .ok (.iload_n 1, 1) := by decide +kernel
theorem d_A_grow1_22 : decode prog_21_method_6_code 22 = .ok (.iload_n 2, 1) := by decide +kernel
theorem d_A_grow1_23 : decode prog_21_method_6_code 23 = .ok (.isub, 1) := by decide +kernel
theorem d_A_grow1_24 : decode prog_21_method_6_code 24 = .ok (.iload_n 2, 1) := by decide +kernel
theorem d_A_grow1_25 : decode prog_21_method_6_code 25 = .ok (.iconst 1, 1) := by decide +kernel
theorem d_A_grow1_26 : decode prog_21_method_6_code 26 = .ok (.ishr, 1) := by decide +kernel
theorem d_A_grow1_27 : decode prog_21_method_6_code 27 = .ok (.invokestatic 73, 3) := by decide +kernel
theorem d_A_grow1_30 : decode prog_21_method_6_code 30 = .ok (.istore_n 3, 1) := by decide +kernel
theorem d_A_grow1_31 : decode prog_21_method_6_code 31 = .ok (.aload_n 0, 1) := by decide +kernel
theorem d_A_grow1_32 : decode prog_21_method_6_code 32 = .ok (.aload_n 0, 1) := by decide +kernel
theorem d_A_grow1_33 : decode prog_21_method_6_code 33 = .ok (.getfield 9, 3) := by decide +kernel
theorem d_A_grow1_36 : decode prog_21_method_6_code 36 = .ok (.iload_n 3, 1) := by decide +kernel
theorem d_A_grow1_37 : decode prog_21_method_6_code 37 = .ok (.invokestatic 66, 3) := by decide +kernel
theorem d_A_grow1_40 : decode prog_21_method_6_code 40 = .ok (.dup_x1, 1) := by decide +kernel
theorem d_A_grow1_41 : decode prog_21_method_6_code 41 = .ok (.putfield 9, 3) := by decide +kernel
theorem d_A_grow1_44 : decode prog_21_method_6_code 44 = .ok (.areturn, 1) := by decide +kernel
theorem d_A_grow1_45 : decode prog_21_method_6_code 45 = .ok (.aload_n 0, 1) := by decide +kernel
theorem d_A_grow1_46 : decode prog_21_method_6_code 46 = .ok (.bipush 10, 2) := by decide +kernel
theorem d_A_grow1_48 : decode prog_21_method_6_code 48 = .ok (.iload_n 1, 1) := by decide +kernel
theorem d_A_grow1_49 : decode prog_21_method_6_code 49 = .ok (.invokestatic 79, 3) := by decide +kernel
theorem d_A_grow1_52 : decode prog_21_method_6_code 52 = .ok (.anewarray 7, 3) := by decide +kernel
theorem d_A_grow1_55 : decode prog_21_method_6_code 55 = .ok (.dup_x1, 1) := by decide +kernel
theorem d_A_grow1_56 : decode prog_21_method_6_code 56 = .ok (.putfield 9, 3) := by decide +kernel
theorem d_A_grow1_59 : decode prog_21_method_6_code 59 = .ok (.areturn, 1) := by decide +kernel
theorem d_AS_newLength_0 : decode prog_29_method_27_code 0 = .ok (.iload_n 0, 1) := by decide +kernel
theorem d_AS_newLength_1 : decode prog_29_method_27_code 1 = .ok (.iload_n 1, 1) := by decide +kernel
theorem d_AS_newLength_2 : decode prog_29_method_27_code 2 = .ok (.iload_n 2, 1) := by decide +kernel
theorem d_AS_newLength_3 : decode prog_29_method_27_code 3 = .ok (.invokestatic 194, 3) := by decide +kernel
theorem d_AS_newLength_6 : decode prog_29_method_27_code 6 = .ok (.iadd, 1) := by decide +kernel
theorem d_AS_newLength_7 : decode prog_29_method_27_code 7 = .ok (.istore_n 3, 1) := by decide +kernel
theorem d_AS_newLength_8 : decode prog_29_method_27_code 8 = .ok (.iconst 0, 1) := by decide +kernel
theorem d_AS_newLength_9 : decode prog_29_method_27_code 9 = .ok (.iload_n 3, 1) := by decide +kernel
theorem d_AS_newLength_10 : decode prog_29_method_27_code 10 = .ok (.if_icmp .ge 11, 3) := by decide +kernel
theorem d_AS_newLength_13 : decode prog_29_method_27_code 13 = .ok (.iload_n 3, 1) := by decide +kernel
theorem d_AS_newLength_14 : decode prog_29_method_27_code 14 = .ok (.ldc 200, 2) := by decide +kernel
theorem d_AS_newLength_16 : decode prog_29_method_27_code 16 = .ok (.if_icmp .gt 5, 3) := by decide +kernel
theorem d_AS_newLength_19 : decode prog_29_method_27_code 19 = .ok (.iload_n 3, 1) := by decide +kernel
theorem d_AS_newLength_20 : decode prog_29_method_27_code 20 = .ok (.ireturn, 1) := by decide +kernel
theorem d_AS_newLength_21 : decode prog_29_method_27_code 21 = .ok (.iload_n 0, 1) := by decide +kernel
theorem d_AS_newLength_22 : decode prog_29_method_27_code 22 = .ok (.iload_n 1, 1) := by decide +kernel
theorem d_AS_newLength_23 : decode prog_29_method_27_code 23 = .ok (.invokestatic 201, 3) := by decide +kernel
theorem d_AS_newLength_26 : decode prog_29_method_27_code 26 = .ok (.ireturn, 1) := by decide +kernel
theorem d_MA_max_0 : decode prog_14_method_65_code 0 = .ok (.iload_n 0, 1) := by decide +kernel
theorem d_MA_max_1 : decode prog_14_method_65_code 1 = .ok (.iload_n 1, 1) := by decide +kernel
theorem d_MA_max_2 : decode prog_14_method_65_code 2 = .ok (.if_icmp .lt 7, 3) := by decide +kernel
theorem d_MA_max_5 : decode prog_14_method_65_code 5 = .ok (.iload_n 0, 1) := by decide +kernel
theorem d_MA_max_6 : decode prog_14_method_65_code 6 = .ok (.goto 4, 3) := by decide +kernel
theorem d_MA_max_9 : decode prog_14_method_65_code 9 = .ok (.iload_n 1, 1) := by decide +kernel
theorem d_MA_max_10 : decode prog_14_method_65_code 10 = .ok (.ireturn, 1) := by decide +kernel
theorem d_AS_hugeLength_0 : decode prog_29_method_28_code 0 = .ok (.iload_n 0, 1) := by decide +kernel
theorem d_AS_hugeLength_1 : decode prog_29_method_28_code 1 = .ok (.iload_n 1, 1) := by decide +kernel
theorem d_AS_hugeLength_2 : decode prog_29_method_28_code 2 = .ok (.iadd, 1) := by decide +kernel
theorem d_AS_hugeLength_3 : decode prog_29_method_28_code 3 = .ok (.istore_n 2, 1) := by decide +kernel
theorem d_AS_hugeLength_4 : decode prog_29_method_28_code 4 = .ok (.iload_n 2, 1) := by decide +kernel
theorem d_AS_hugeLength_5 : decode prog_29_method_28_code 5 = .ok (.ifCond .ge 44, 3) := by decide +kernel
theorem d_AS_hugeLength_8 : decode prog_29_method_28_code 8 = .ok (.new 204, 3) := by decide +kernel
theorem d_AS_hugeLength_11 : decode prog_29_method_28_code 11 = .ok (.dup, 1) := by decide +kernel
theorem d_AS_hugeLength_12 : decode prog_29_method_28_code 12 = .ok (.new 89, 3) := by decide +kernel
theorem d_AS_hugeLength_15 : decode prog_29_method_28_code 15 = .ok (.dup, 1) := by decide +kernel
theorem d_AS_hugeLength_16 : decode prog_29_method_28_code 16 = .ok (.invokespecial 91, 3) := by decide +kernel
theorem d_AS_hugeLength_19 : decode prog_29_method_28_code 19 = .ok (.ldc 206, 2) := by decide +kernel
theorem d_AS_hugeLength_21 : decode prog_29_method_28_code 21 = .ok (.invokevirtual 94, 3) := by decide +kernel
theorem d_AS_hugeLength_24 : decode prog_29_method_28_code 24 = .ok (.iload_n 0, 1) := by decide +kernel
theorem d_AS_hugeLength_25 : decode prog_29_method_28_code 25 = .ok (.invokevirtual 98, 3) := by decide +kernel
theorem d_AS_hugeLength_28 : decode prog_29_method_28_code 28 = .ok (.ldc 208, 2) := by decide +kernel
theorem d_AS_hugeLength_30 : decode prog_29_method_28_code 30 = .ok (.invokevirtual 94, 3) := by decide +kernel
theorem d_AS_hugeLength_33 : decode prog_29_method_28_code 33 = .ok (.iload_n 1, 1) := by decide +kernel
theorem d_AS_hugeLength_34 : decode prog_29_method_28_code 34 = .ok (.invokevirtual 98, 3) := by decide +kernel
theorem d_AS_hugeLength_37 : decode prog_29_method_28_code 37 = .ok (.ldc 210, 2) := by decide +kernel
theorem d_AS_hugeLength_39 : decode prog_29_method_28_code 39 = .ok (.invokevirtual 94, 3) := by decide +kernel
theorem d_AS_hugeLength_42 : decode prog_29_method_28_code 42 = .ok (.invokevirtual 101, 3) := by decide +kernel
theorem d_AS_hugeLength_45 : decode prog_29_method_28_code 45 = .ok (.invokespecial 212, 3) := by decide +kernel
theorem d_AS_hugeLength_48 : decode prog_29_method_28_code 48 = .ok (.athrow, 1) := by decide +kernel
theorem d_AS_hugeLength_49 : decode prog_29_method_28_code 49 = .ok (.iload_n 2, 1) := by decide +kernel
theorem d_AS_hugeLength_50 : decode prog_29_method_28_code 50 = .ok (.ldc 200, 2) := by decide +kernel
theorem d_AS_hugeLength_52 : decode prog_29_method_28_code 52 = .ok (.if_icmp .gt 6, 3) := by decide +kernel
theorem d_AS_hugeLength_55 : decode prog_29_method_28_code 55 = .ok (.ldc 200, 2) := by decide +kernel
theorem d_AS_hugeLength_57 : decode prog_29_method_28_code 57 = .ok (.ireturn, 1) := by decide +kernel
theorem d_AS_hugeLength_58 : decode prog_29_method_28_code 58 = .ok (.iload_n 2, 1) := by decide +kernel
theorem d_AS_hugeLength_59 : decode prog_29_method_28_code 59 = .ok (.ireturn, 1) := by decide +kernel
