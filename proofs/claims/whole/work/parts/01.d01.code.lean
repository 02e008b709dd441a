theorem d_AR_copyOf0_0 : decode prog_22_method_119_code 0 = .ok (.aload_n 0, 1) := by decide +kernel
theorem d_AR_copyOf0_1 : decode prog_22_method_119_code 1 = .ok (.iload_n 1, 1) := by decide +kernel
theorem d_AR_copyOf0_2 : decode prog_22_method_119_code 2 = .ok (.aload_n 0, 1) := by decide +kernel
theorem d_AR_copyOf0_3 : decode prog_22_method_119_code 3 = .ok (.invokevirtual 86, 3) := by decide +kernel
theorem d_AR_copyOf0_6 : decode prog_22_method_119_code 6 = .ok (.invokestatic 300, 3) := by decide +kernel
theorem d_AR_copyOf0_9 : decode prog_22_method_119_code 9 = .ok (.areturn, 1) := by decide +kernel
theorem d_AR_copyOf1_0 : decode prog_22_method_120_code 0 = .ok (.aload_n 2, 1) := by decide +kernel
theorem d_AR_copyOf1_1 : decode prog_22_method_120_code 1 = .ok (.ldc 110, 2) := by decide +kernel
theorem d_AR_copyOf1_3 : decode prog_22_method_120_code 3 = .ok (.if_acmp .ne 10, 3) := by decide +kernel
theorem d_AR_copyOf1_6 : decode prog_22_method_120_code 6 = .ok (.iload_n 1, 1) := by decide +kernel
theorem d_AR_copyOf1_7 : decode prog_22_method_120_code 7 = .ok (.anewarray 2, 3) := by decide +kernel
theorem d_AR_copyOf1_10 : decode prog_22_method_120_code 10 = .ok (.goto 14, 3) := by decide +kernel
theorem d_AR_copyOf1_13 : decode prog_22_method_120_code 13 = .ok (.aload_n 2, 1) := by decide +kernel
theorem d_AR_copyOf1_14 : decode prog_22_method_120_code 14 = .ok (.invokevirtual 90, 3) := by decide +kernel
theorem d_AR_copyOf1_17 : decode prog_22_method_120_code 17 = .ok (.iload_n 1, 1) := by decide +kernel
theorem d_AR_copyOf1_18 : decode prog_22_method_120_code 18 = .ok (.invokestatic 95, 3) := by decide +kernel
theorem d_AR_copyOf1_21 : decode prog_22_method_120_code 21 = .ok (.checkcast 110, 3) := by decide +kernel
theorem d_AR_copyOf1_24 : decode prog_22_method_120_code 24 = .ok (.astore_n 3, 1) := by decide +kernel
theorem d_AR_copyOf1_25 : decode prog_22_method_120_code 25 = .ok (.aload_n 0, 1) := by decide +kernel
theorem d_AR_copyOf1_26 : decode prog_22_method_120_code 26 = .ok (.iconst 0, 1) := by decide +kernel
theorem d_AR_copyOf1_27 : decode prog_22_method_120_code 27 = .ok (.aload_n 3, 1) := by decide +kernel
theorem d_AR_copyOf1_28 : decode prog_22_method_120_code 28 = .ok (.iconst 0, 1) := by decide +kernel
theorem d_AR_copyOf1_29 : decode prog_22_method_120_code 29 = .ok (.aload_n 0, 1) := by decide +kernel
theorem d_AR_copyOf1_30 : decode prog_22_method_120_code 30 = .ok (.arraylength, 1) := by decide +kernel
theorem d_AR_copyOf1_31 : decode prog_22_method_120_code 31 = .ok (.iload_n 1, 1) := by decide +kernel
theorem d_AR_copyOf1_32 : decode prog_22_method_120_code 32 = .ok (.invokestatic 304, 3) := by decide +kernel
theorem d_AR_copyOf1_35 : decode prog_22_method_120_code 35 = .ok (.invokestatic 150, 3) := by decide +kernel
theorem d_AR_copyOf1_38 : decode prog_22_method_120_code 38 = .ok (.aload_n 3, 1) := by decide +kernel
theorem d_AR_copyOf1_39 : decode prog_22_method_120_code 39 = .ok (.areturn, 1) := by decide +kernel
theorem d_MA_min_0 : decode prog_14_method_69_code 0 = .ok (.iload_n 0, 1) := by decide +kernel
theorem d_MA_min_1 : decode prog_14_method_69_code 1 = .ok (.iload_n 1, 1) := by decide +kernel
theorem d_MA_min_2 : decode prog_14_method_69_code 2 = .ok (.if_icmp .gt 7, 3) := by decide +kernel
theorem d_MA_min_5 : decode prog_14_method_69_code 5 = .ok (.iload_n 0, 1) := by decide +kernel
theorem d_MA_min_6 : decode prog_14_method_69_code 6 = .ok (.goto 4, 3) := by decide +kernel
theorem d_MA_min_9 : decode prog_14_method_69_code 9 = .ok (.iload_n 1, 1) := by decide +kernel
theorem d_MA_min_10 : decode prog_14_method_69_code 10 = .ok (.ireturn, 1) := by decide +kernel
theorem d_N_isMarker_0 : decode prog_4_method_3_code 0 = .ok (.aload_n 0, 1) := by decide +kernel
theorem d_N_isMarker_1 : decode prog_4_method_3_code 1 = .ok (.getfield 21, 3) := by decide +kernel
theorem d_N_isMarker_4 : decode prog_4_method_3_code 4 = .ok (.iconst (-1), 1) := by decide +kernel
theorem d_N_isMarker_5 : decode prog_4_method_3_code 5 = .ok (.if_icmp .ne 7, 3) := by decide +kernel
theorem d_N_isMarker_8 : decode prog_4_method_3_code 8 = .ok (.iconst 1, 1) := by decide +kernel
theorem d_N_isMarker_9 : decode prog_4_method_3_code 9 = .ok (.goto 4, 3) := by decide +kernel
theorem d_N_isMarker_12 : decode prog_4_method_3_code 12 = .ok (.iconst 0, 1) := by decide +kernel
theorem d_N_isMarker_13 : decode prog_4_method_3_code 13 = .ok (.ireturn, 1) := by decide +kernel
theorem d_G_write_0 : decode prog_2_method_2_code 0 = .ok (.aload_n 0, 1) := by decide +kernel
theorem d_G_write_1 : decode prog_2_method_2_code 1 = .ok (.getfield 19, 3) := by decide +kernel
theorem d_G_write_4 : decode prog_2_method_2_code 4 = .ok (.invokestatic 23, 3) := by decide +kernel
theorem d_G_write_7 : decode prog_2_method_2_code 7 = .ok (.istore 5, 2) := by decide +kernel
theorem d_G_write_9 : decode prog_2_method_2_code 9 = .ok (.aload_n 0, 1) := by decide +kernel
theorem d_G_write_10 : decode prog_2_method_2_code 10 = .ok (.iload 5, 2) := by decide +kernel
theorem d_G_write_12 : decode prog_2_method_2_code 12 = .ok (.iload_n 1, 1) := by decide +kernel
theorem d_G_write_13 : decode prog_2_method_2_code 13 = .ok (.invokevirtual 27, 3) := by decide +kernel
theorem d_G_write_16 : decode prog_2_method_2_code 16 = .ok (.aload_n 0, 1) := by decide +kernel
theorem d_G_write_17 : decode prog_2_method_2_code 17 = .ok (.iload 5, 2) := by decide +kernel
theorem d_G_write_19 : decode prog_2_method_2_code 19 = .ok (.iconst 1, 1) := by decide +kernel
theorem d_G_write_20 : decode prog_2_method_2_code 20 = .ok (.iadd, 1) := by decide +kernel
theorem d_G_write_21 : decode prog_2_method_2_code 21 = .ok (.iload_n 2, 1) := by decide +kernel
theorem d_G_write_22 : decode prog_2_method_2_code 22 = .ok (.invokevirtual 27, 3) := by decide +kernel
theorem d_G_write_25 : decode prog_2_method_2_code 25 = .ok (.aload_n 0, 1) := by decide +kernel
theorem d_G_write_26 : decode prog_2_method_2_code 26 = .ok (.iload 5, 2) := by decide +kernel
theorem d_G_write_28 : decode prog_2_method_2_code 28 = .ok (.iconst 2, 1) := by decide +kernel
theorem d_G_write_29 : decode prog_2_method_2_code 29 = .ok (.iadd, 1) := by decide +kernel
theorem d_G_write_30 : decode prog_2_method_2_code 30 = .ok (.iload_n 3, 1) := by decide +kernel
theorem d_G_write_31 : decode prog_2_method_2_code 31 = .ok (.invokevirtual 27, 3) := by decide +kernel
theorem d_G_write_34 : decode prog_2_method_2_code 34 = .ok (.aload_n 0, 1) := by decide +kernel
theorem d_G_write_35 : decode prog_2_method_2_code 35 = .ok (.iload 5, 2) := by decide +kernel
theorem d_G_write_37 : decode prog_2_method_2_code 37 = .ok (.iconst 3, 1) := by decide +kernel
theorem d_G_write_38 : decode prog_2_method_2_code 38 = .ok (.iadd, 1) := by decide +kernel
theorem d_G_write_39 : decode prog_2_method_2_code 39 = .ok (.iload 4, 2) := by decide +kernel
theorem d_G_write_41 : decode prog_2_method_2_code 41 = .ok (.invokevirtual 27, 3) := by decide +kernel
theorem d_G_write_44 : decode prog_2_method_2_code 44 = .ok (.aload_n 0, 1) := by decide +kernel
theorem d_G_write_45 : decode prog_2_method_2_code 45 = .ok (.dup, 1) := by decide +kernel
theorem d_G_write_46 : decode prog_2_method_2_code 46 = .ok (.getfield 19, 3) := by decide +kernel
theorem d_G_write_49 : decode prog_2_method_2_code 49 = .ok (.iconst 1, 1) := by decide +kernel
theorem d_G_write_50 : decode prog_2_method_2_code 50 = .ok (.iadd, 1) := by decide +kernel
theorem d_G_write_51 : decode prog_2_method_2_code 51 = .ok (.putfield 19, 3) := by decide +kernel
theorem d_G_write_54 : decode prog_2_method_2_code 54 = .ok (.return_, 1) := by decide +kernel
theorem d_G_placeOf_0 : decode prog_2_method_6_code 0 = .ok (.iload_n 0, 1) := by decide +kernel
theorem d_G_placeOf_1 : decode prog_2_method_6_code 1 = .ok (.bipush 63, 2) := by decide +kernel
theorem d_G_placeOf_3 : decode prog_2_method_6_code 3 = .ok (.iand, 1) := by decide +kernel
theorem d_G_placeOf_4 : decode prog_2_method_6_code 4 = .ok (.iconst 4, 1) := by decide +kernel
theorem d_G_placeOf_5 : decode prog_2_method_6_code 5 = .ok (.imul, 1) := by decide +kernel
theorem d_G_placeOf_6 : decode prog_2_method_6_code 6 = .ok (.ireturn, 1) := by decide +kernel
theorem d_G_append_0 : decode prog_2_method_5_code 0 = .ok (.aload_n 0, 1) := by decide +kernel
theorem d_G_append_1 : decode prog_2_method_5_code 1 = .ok (.getfield 9, 3) := by decide +kernel
theorem d_G_append_4 : decode prog_2_method_5_code 4 = .ok (.iload_n 1, 1) := by decide +kernel
theorem d_G_append_5 : decode prog_2_method_5_code 5 = .ok (.iload_n 2, 1) := by decide +kernel
theorem d_G_append_6 : decode prog_2_method_5_code 6 = .ok (.iastore, 1) := by decide +kernel
theorem d_G_append_7 : decode prog_2_method_5_code 7 = .ok (.aload_n 0, 1) := by decide +kernel
theorem d_G_append_8 : decode prog_2_method_5_code 8 = .ok (.aload_n 0, 1) := by decide +kernel
theorem d_G_append_9 : decode prog_2_method_5_code 9 = .ok (.getfield 15, 3) := by decide +kernel
theorem d_G_append_12 : decode prog_2_method_5_code 12 = .ok (.iload_n 2, 1) := by decide +kernel
theorem d_G_append_13 : decode prog_2_method_5_code 13 = .ok (.i2l, 1) := by decide +kernel
theorem d_G_append_14 : decode prog_2_method_5_code 14 = .ok (.lxor, 1) := by decide +kernel
theorem d_G_append_15 : decode prog_2_method_5_code 15 = .ok (.ldc2_w 31, 3) := by decide +kernel
theorem d_G_append_18 : decode prog_2_method_5_code 18 = .ok (.lmul, 1) := by decide +kernel
theorem d_G_append_19 : decode prog_2_method_5_code 19 = .ok (.putfield 15, 3) := by decide +kernel
theorem d_G_append_22 : decode prog_2_method_5_code 22 = .ok (.return_, 1) := by decide +kernel
theorem d_W_mark_0 : decode method_4_code 0 = .ok (.aload_n 2, 1) := by decide +kernel
theorem d_W_mark_1 : decode method_4_code 1 = .ok (.iconst 0, 1) := by decide +kernel
theorem d_W_mark_2 : decode method_4_code 2 = .ok (.aload_n 0, 1) := by decide +kernel
theorem d_W_mark_3 : decode method_4_code 3 = .ok (.iload_n 1, 1) := by decide +kernel
theorem d_W_mark_4 : decode method_4_code 4 = .ok (.invokevirtual 17, 3) := by decide +kernel
theorem d_W_mark_7 : decode method_4_code 7 = .ok (.i2l, 1) := by decide +kernel
theorem d_W_mark_8 : decode method_4_code 8 = .ok (.lastore, 1) := by decide +kernel
theorem d_W_mark_9 : decode method_4_code 9 = .ok (.goto 9, 3) := by decide +kernel
theorem d_W_mark_12 : decode method_4_code 12 = .ok (.astore_n 3, 1) := by decide +kernel
theorem d_W_mark_13 : decode method_4_code 13 = .ok (.iconst 1, 1) := by decide +kernel
theorem d_W_mark_14 : decode method_4_code 14 = .ok (.ireturn, 1) := by decide +kernel
theorem d_W_mark_15 : decode method_4_code 15 = .ok (.astore_n 3, 1) := by decide +kernel
theorem d_W_mark_16 : decode method_4_code 16 = .ok (.iconst 2, 1) := by decide +kernel
theorem d_W_mark_17 : decode method_4_code 17 = .ok (.ireturn, 1) := by decide +kernel
theorem d_W_mark_18 : decode method_4_code 18 = .ok (.iconst 0, 1) := by decide +kernel
theorem d_W_mark_19 : decode method_4_code 19 = .ok (.ireturn, 1) := by decide +kernel
theorem d_V_mark_0 : decode prog_1_method_3_code 0 = .ok (.aload_n 0, 1) := by decide +kernel
theorem d_V_mark_1 : decode prog_1_method_3_code 1 = .ok (.iload_n 1, 1) := by decide +kernel
theorem d_V_mark_2 : decode prog_1_method_3_code 2 = .ok (.invokevirtual 62, 3) := by decide +kernel
theorem d_V_mark_5 : decode prog_1_method_3_code 5 = .ok (.pop, 1) := by decide +kernel
theorem d_V_mark_6 : decode prog_1_method_3_code 6 = .ok (.aload_n 0, 1) := by decide +kernel
theorem d_V_mark_7 : decode prog_1_method_3_code 7 = .ok (.invokevirtual 39, 3) := by decide +kernel
theorem d_V_mark_10 : decode prog_1_method_3_code 10 = .ok (.aload_n 0, 1) := by decide +kernel
theorem d_V_mark_11 : decode prog_1_method_3_code 11 = .ok (.new 42, 3) := by decide +kernel
theorem d_V_mark_14 : decode prog_1_method_3_code 14 = .ok (.dup, 1) := by decide +kernel
theorem d_V_mark_15 : decode prog_1_method_3_code 15 = .ok (.aload_n 0, 1) := by decide +kernel
theorem d_V_mark_16 : decode prog_1_method_3_code 16 = .ok (.getfield 44, 3) := by decide +kernel
theorem d_V_mark_19 : decode prog_1_method_3_code 19 = .ok (.iload_n 1, 1) := by decide +kernel
theorem d_V_mark_20 : decode prog_1_method_3_code 20 = .ok (.aload_n 0, 1) := by decide +kernel
theorem d_V_mark_21 : decode prog_1_method_3_code 21 = .ok (.getfield 48, 3) := by decide +kernel
theorem d_V_mark_24 : decode prog_1_method_3_code 24 = .ok (.invokespecial 51, 3) := by decide +kernel
theorem d_V_mark_27 : decode prog_1_method_3_code 27 = .ok (.invokevirtual 58, 3) := by decide +kernel
theorem d_V_mark_30 : decode prog_1_method_3_code 30 = .ok (.ireturn, 1) := by decide +kernel
theorem d_V_currentObject_0 : decode prog_1_method_23_code 0 = .ok (.aload_n 0, 1) := by decide +kernel
theorem d_V_currentObject_1 : decode prog_1_method_23_code 1 = .ok (.iload_n 1, 1) := by decide +kernel
theorem d_V_currentObject_2 : decode prog_1_method_23_code 2 = .ok (.invokevirtual 219, 3) := by decide +kernel
theorem d_V_currentObject_5 : decode prog_1_method_23_code 5 = .ok (.astore_n 2, 1) := by decide +kernel
theorem d_V_currentObject_6 : decode prog_1_method_23_code 6 = .ok (.aload_n 2, 1) := by decide +kernel
theorem d_V_currentObject_7 : decode prog_1_method_23_code 7 = .ok (.ifnull 10, 3) := by decide +kernel
theorem d_V_currentObject_10 : decode prog_1_method_23_code 10 = .ok (.aload_n 2, 1) := by decide +kernel
theorem d_V_currentObject_11 : decode prog_1_method_23_code 11 = .ok (.invokevirtual 214, 3) := by decide +kernel
theorem d_V_currentObject_14 : decode prog_1_method_23_code 14 = .ok (.ifCond .eq 13, 3) := by decide +kernel
theorem d_V_currentObject_17 : decode prog_1_method_23_code 17 = .ok (.new 209, 3) := by decide +kernel
theorem d_V_currentObject_20 : decode prog_1_method_23_code 20 = .ok (.dup, 1) := by decide +kernel
theorem d_V_currentObject_21 : decode prog_1_method_23_code 21 = .ok (.ldc 222, 2) := by decide +kernel
theorem d_V_currentObject_23 : decode prog_1_method_23_code 23 = .ok (.invokespecial 213, 3) := by decide +kernel
theorem d_V_currentObject_26 : decode prog_1_method_23_code 26 = .ok (.athrow, 1) := by decide +kernel
theorem d_V_currentObject_27 : decode prog_1_method_23_code 27 = .ok (.aload_n 2, 1) := by decide +kernel
theorem d_V_currentObject_28 : decode prog_1_method_23_code 28 = .ok (.areturn, 1) := by decide +kernel
theorem d_W_erase_0 : decode method_5_code 0 = .ok (.aload_n 3, 1) := by decide +kernel
theorem d_W_erase_1 : decode method_5_code 1 = .ok (.iconst 0, 1) := by decide +kernel
theorem d_W_erase_2 : decode method_5_code 2 = .ok (.aload_n 0, 1) := by decide +kernel
theorem d_W_erase_3 : decode method_5_code 3 = .ok (.iload_n 1, 1) := by decide +kernel
theorem d_W_erase_4 : decode method_5_code 4 = .ok (.iload_n 2, 1) := by decide +kernel
theorem d_W_erase_5 : decode method_5_code 5 = .ok (.invokevirtual 23, 3) := by decide +kernel
theorem d_W_erase_8 : decode method_5_code 8 = .ok (.i2l, 1) := by decide +kernel
theorem d_W_erase_9 : decode method_5_code 9 = .ok (.lastore, 1) := by decide +kernel
theorem d_W_erase_10 : decode method_5_code 10 = .ok (.goto 11, 3) := by decide +kernel
theorem d_W_erase_13 : decode method_5_code 13 = .ok (.astore 4, 2) := by decide +kernel
theorem d_W_erase_15 : decode method_5_code 15 = .ok (.iconst 1, 1) := by decide +kernel
theorem d_W_erase_16 : decode method_5_code 16 = .ok (.ireturn, 1) := by decide +kernel
theorem d_W_erase_17 : decode method_5_code 17 = .ok (.astore 4, 2) := by decide +kernel
theorem d_W_erase_19 : decode method_5_code 19 = .ok (.iconst 2, 1) := by decide +kernel
theorem d_W_erase_20 : decode method_5_code 20 = .ok (.ireturn, 1) := by decide +kernel
theorem d_W_erase_21 : decode method_5_code 21 = .ok (.iconst 0, 1) := by decide +kernel
theorem d_W_erase_22 : decode method_5_code 22 = .ok (.ireturn, 1) := by decide +kernel
theorem d_V_erase_0 : decode prog_1_method_4_code 0 = .ok (.aload_n 0, 1) := by decide +kernel
theorem d_V_erase_1 : decode prog_1_method_4_code 1 = .ok (.iload_n 1, 1) := by decide +kernel
theorem d_V_erase_2 : decode prog_1_method_4_code 2 = .ok (.invokevirtual 66, 3) := by decide +kernel
theorem d_V_erase_5 : decode prog_1_method_4_code 5 = .ok (.astore_n 3, 1) := by decide +kernel
theorem d_V_erase_6 : decode prog_1_method_4_code 6 = .ok (.iload_n 2, 1) := by decide +kernel
theorem d_V_erase_7 : decode prog_1_method_4_code 7 = .ok (.ifCond .eq 18, 3) := by decide +kernel
theorem d_V_erase_10 : decode prog_1_method_4_code 10 = .ok (.aload_n 3, 1) := by decide +kernel
theorem d_V_erase_11 : decode prog_1_method_4_code 11 = .ok (.aload_n 0, 1) := by decide +kernel
theorem d_V_erase_12 : decode prog_1_method_4_code 12 = .ok (.getfield 48, 3) := by decide +kernel
theorem d_V_erase_15 : decode prog_1_method_4_code 15 = .ok (.invokevirtual 69, 3) := by decide +kernel
theorem d_V_erase_18 : decode prog_1_method_4_code 18 = .ok (.ifCond .ne 7, 3) := by decide +kernel
theorem d_V_erase_21 : decode prog_1_method_4_code 21 = .ok (.iconst 1, 1) := by decide +kernel
theorem d_V_erase_22 : decode prog_1_method_4_code 22 = .ok (.goto 4, 3) := by decide +kernel
theorem d_V_erase_25 : decode prog_1_method_4_code 25 = .ok (.iconst 0, 1) := by decide +kernel
theorem d_V_erase_26 : decode prog_1_method_4_code 26 = .ok (.istore 4, 2) := by decide +kernel
theorem d_V_erase_28 : decode prog_1_method_4_code 28 = .ok (.aload_n 3, 1) := by decide +kernel
theorem d_V_erase_29 : decode prog_1_method_4_code 29 = .ok (.invokevirtual 73, 3) := by decide +kernel
theorem d_V_erase_32 : decode prog_1_method_4_code 32 = .ok (.ifCond .ne 19, 3) := by decide +kernel
theorem d_V_erase_35 : decode prog_1_method_4_code 35 = .ok (.aload_n 3, 1) := by decide +kernel
theorem d_V_erase_36 : decode prog_1_method_4_code 36 = .ok (.aload_n 0, 1) := by decide +kernel
theorem d_V_erase_37 : decode prog_1_method_4_code 37 = .ok (.getfield 48, 3) := by decide +kernel
theorem d_V_erase_40 : decode prog_1_method_4_code 40 = .ok (.invokevirtual 77, 3) := by decide +kernel
theorem d_V_erase_43 : decode prog_1_method_4_code 43 = .ok (.ifCond .eq 18, 3) := by decide +kernel
theorem d_V_erase_46 : decode prog_1_method_4_code 46 = .ok (.iload 4, 2) := by decide +kernel
theorem d_V_erase_48 : decode prog_1_method_4_code 48 = .ok (.ifCond .ne 13, 3) := by decide +kernel
theorem d_V_erase_51 : decode prog_1_method_4_code 51 = .ok (.new 80, 3) := by decide +kernel
theorem d_V_erase_54 : decode prog_1_method_4_code 54 = .ok (.dup, 1) := by decide +kernel
theorem d_V_erase_55 : decode prog_1_method_4_code 55 = .ok (.ldc 82, 2) := by decide +kernel
theorem d_V_erase_57 : decode prog_1_method_4_code 57 = .ok (.invokespecial 84, 3) := by decide +kernel
theorem d_V_erase_60 : decode prog_1_method_4_code 60 = .ok (.athrow, 1) := by decide +kernel
theorem d_V_erase_61 : decode prog_1_method_4_code 61 = .ok (.aload_n 0, 1) := by decide +kernel
theorem d_V_erase_62 : decode prog_1_method_4_code 62 = .ok (.aload_n 3, 1) := by decide +kernel
theorem d_V_erase_63 : decode prog_1_method_4_code 63 = .ok (.invokevirtual 87, 3) := by decide +kernel
theorem d_V_erase_66 : decode prog_1_method_4_code 66 = .ok (.aload_n 3, 1) := by decide +kernel
theorem d_V_erase_67 : decode prog_1_method_4_code 67 = .ok (.getfield 91, 3) := by decide +kernel
theorem d_V_erase_70 : decode prog_1_method_4_code 70 = .ok (.ireturn, 1) := by decide +kernel
theorem d_V_versionNumbered_0 : decode prog_1_method_21_code 0 = .ok (.iconst 0, 1) := by decide +kernel
theorem d_V_versionNumbered_1 : decode prog_1_method_21_code 1 = .ok (.istore_n 2, 1) := by decide +kernel
theorem d_V_versionNumbered_2 : decode prog_1_method_21_code 2 = .ok (.iload_n 2, 1) := by decide +kernel
theorem d_V_versionNumbered_3 : decode prog_1_method_21_code 3 = .ok (.aload_n 0, 1) := by decide +kernel
theorem d_V_versionNumbered_4 : decode prog_1_method_21_code 4 = .ok (.getfield 10, 3) := by decide +kernel
theorem d_V_versionNumbered_7 : decode prog_1_method_21_code 7 = .ok (.invokevirtual 188, 3) := by decide +kernel
theorem d_V_versionNumbered_10 : decode prog_1_method_21_code 10 = .ok (.if_icmp .ge 31, 3) := by decide +kernel
theorem d_V_versionNumbered_13 : decode prog_1_method_21_code 13 = .ok (.aload_n 0, 1) := by decide +kernel
theorem d_V_versionNumbered_14 : decode prog_1_method_21_code 14 = .ok (.getfield 10, 3) := by decide +kernel
theorem d_V_versionNumbered_17 : decode prog_1_method_21_code 17 = .ok (.iload_n 2, 1) := by decide +kernel
theorem d_V_versionNumbered_18 : decode prog_1_method_21_code 18 = .ok (.invokevirtual 205, 3) := by decide +kernel
theorem d_V_versionNumbered_21 : decode prog_1_method_21_code 21 = .ok (.checkcast 42, 3) := by decide +kernel
theorem d_V_versionNumbered_24 : decode prog_1_method_21_code 24 = .ok (.astore_n 3, 1) := by decide +kernel
theorem d_V_versionNumbered_25 : decode prog_1_method_21_code 25 = .ok (.aload_n 3, 1) := by decide +kernel
theorem d_V_versionNumbered_26 : decode prog_1_method_21_code 26 = .ok (.getfield 106, 3) := by decide +kernel
theorem d_V_versionNumbered_29 : decode prog_1_method_21_code 29 = .ok (.iload_n 1, 1) := by decide +kernel
theorem d_V_versionNumbered_30 : decode prog_1_method_21_code 30 = .ok (.if_icmp .ne 5, 3) := by decide +kernel
theorem d_V_versionNumbered_33 : decode prog_1_method_21_code 33 = .ok (.aload_n 3, 1) := by decide +kernel
theorem d_V_versionNumbered_34 : decode prog_1_method_21_code 34 = .ok (.areturn, 1) := by decide +kernel
theorem d_V_versionNumbered_35 : decode prog_1_method_21_code 35 = .ok (.iinc 2 1, 3) := by decide +kernel
theorem d_V_versionNumbered_38 : decode prog_1_method_21_code 38 = .ok (.goto (-36), 3) := by decide +kernel
theorem d_V_versionNumbered_41 : decode prog_1_method_21_code 41 = .ok (.new 209, 3) := by decide +kernel
theorem d_V_versionNumbered_44 : decode prog_1_method_21_code 44 = .ok (.dup, 1) := by decide +kernel
theorem d_V_versionNumbered_45 : decode prog_1_method_21_code 45 = .ok (.ldc 211, 2) := by decide +kernel
theorem d_V_versionNumbered_47 : decode prog_1_method_21_code 47 = .ok (.invokespecial 213, 3) := by decide +kernel
theorem d_V_versionNumbered_50 : decode prog_1_method_21_code 50 = .ok (.athrow, 1) := by decide +kernel
theorem d_N_isRetainedStrictly_0 : decode prog_4_method_8_code 0 = .ok (.aload_n 0, 1) := by decide +kernel
theorem d_N_isRetainedStrictly_1 : decode prog_4_method_8_code 1 = .ok (.getfield 43, 3) := by decide +kernel
theorem d_N_isRetainedStrictly_4 : decode prog_4_method_8_code 4 = .ok (.ifCond .eq 15, 3) := by decide +kernel
theorem d_N_isRetainedStrictly_7 : decode prog_4_method_8_code 7 = .ok (.aload_n 0, 1) := by decide +kernel
theorem d_N_isRetainedStrictly_8 : decode prog_4_method_8_code 8 = .ok (.iload_n 1, 1) := by decide +kernel
theorem d_N_isRetainedStrictly_9 : decode prog_4_method_8_code 9 = .ok (.invokevirtual 46, 3) := by decide +kernel
theorem d_N_isRetainedStrictly_12 : decode prog_4_method_8_code 12 = .ok (.ifCond .eq 7, 3) := by decide +kernel
theorem d_N_isRetainedStrictly_15 : decode prog_4_method_8_code 15 = .ok (.iconst 1, 1) := by decide +kernel
theorem d_N_isRetainedStrictly_16 : decode prog_4_method_8_code 16 = .ok (.goto 4, 3) := by decide +kernel
theorem d_N_isRetainedStrictly_19 : decode prog_4_method_8_code 19 = .ok (.iconst 0, 1) := by decide +kernel
theorem d_N_isRetainedStrictly_20 : decode prog_4_method_8_code 20 = .ok (.ireturn, 1) := by decide +kernel
theorem d_N_isRetained_0 : decode prog_4_method_7_code 0 = .ok (.iload_n 1, 1) := by decide +kernel
theorem d_N_isRetained_1 : decode prog_4_method_7_code 1 = .ok (.aload_n 0, 1) := by decide +kernel
theorem d_N_isRetained_2 : decode prog_4_method_7_code 2 = .ok (.getfield 40, 3) := by decide +kernel
theorem d_N_isRetained_5 : decode prog_4_method_7_code 5 = .ok (.if_icmp .ge 7, 3) := by decide +kernel
theorem d_N_isRetained_8 : decode prog_4_method_7_code 8 = .ok (.iconst 1, 1) := by decide +kernel
theorem d_N_isRetained_9 : decode prog_4_method_7_code 9 = .ok (.goto 4, 3) := by decide +kernel
theorem d_N_isRetained_12 : decode prog_4_method_7_code 12 = .ok (.iconst 0, 1) := by decide +kernel
theorem d_N_isRetained_13 : decode prog_4_method_7_code 13 = .ok (.ireturn, 1) := by decide +kernel
theorem d_N_isHeld_0 : decode prog_4_method_6_code 0 = .ok (.aload_n 0, 1) := by decide +kernel
theorem d_N_isHeld_1 : decode prog_4_method_6_code 1 = .ok (.getfield 37, 3) := by decide +kernel
theorem d_N_isHeld_4 : decode prog_4_method_6_code 4 = .ok (.ifCond .eq 7, 3) := by decide +kernel
theorem d_N_isHeld_7 : decode prog_4_method_6_code 7 = .ok (.iconst 1, 1) := by decide +kernel
theorem d_N_isHeld_8 : decode prog_4_method_6_code 8 = .ok (.goto 4, 3) := by decide +kernel
theorem d_N_isHeld_11 : decode prog_4_method_6_code 11 = .ok (.iconst 0, 1) := by decide +kernel
theorem d_N_isHeld_12 : decode prog_4_method_6_code 12 = .ok (.ireturn, 1) := by decide +kernel
theorem d_V_takeAway_0 : decode prog_1_method_26_code 0 = .ok (.iconst 0, 1) := by decide +kernel
theorem d_V_takeAway_1 : decode prog_1_method_26_code 1 = .ok (.istore_n 2, 1) := by decide +kernel
theorem d_V_takeAway_2 : decode prog_1_method_26_code 2 = .ok (.iload_n 2, 1) := by decide +kernel
theorem d_V_takeAway_3 : decode prog_1_method_26_code 3 = .ok (.aload_n 0, 1) := by decide +kernel
theorem d_V_takeAway_4 : decode prog_1_method_26_code 4 = .ok (.getfield 10, 3) := by decide +kernel
theorem d_V_takeAway_7 : decode prog_1_method_26_code 7 = .ok (.invokevirtual 188, 3) := by decide +kernel
theorem d_V_takeAway_10 : decode prog_1_method_26_code 10 = .ok (.if_icmp .ge 33, 3) := by decide +kernel
theorem d_V_takeAway_13 : decode prog_1_method_26_code 13 = .ok (.aload_n 0, 1) := by decide +kernel
theorem d_V_takeAway_14 : decode prog_1_method_26_code 14 = .ok (.getfield 10, 3) := by decide +kernel
theorem d_V_takeAway_17 : decode prog_1_method_26_code 17 = .ok (.iload_n 2, 1) := by decide +kernel
theorem d_V_takeAway_18 : decode prog_1_method_26_code 18 = .ok (.invokevirtual 205, 3) := by decide +kernel
theorem d_V_takeAway_21 : decode prog_1_method_26_code 21 = .ok (.aload_n 1, 1) := by decide +kernel
theorem d_V_takeAway_22 : decode prog_1_method_26_code 22 = .ok (.if_acmp .ne 15, 3) := by decide +kernel
theorem d_V_takeAway_25 : decode prog_1_method_26_code 25 = .ok (.aload_n 0, 1) := by decide +kernel
theorem d_V_takeAway_26 : decode prog_1_method_26_code 26 = .ok (.getfield 10, 3) := by decide +kernel
theorem d_V_takeAway_29 : decode prog_1_method_26_code 29 = .ok (.iload_n 2, 1) := by decide +kernel
theorem d_V_takeAway_30 : decode prog_1_method_26_code 30 = .ok (.invokevirtual 230, 3) := by decide +kernel
theorem d_V_takeAway_33 : decode prog_1_method_26_code 33 = .ok (.pop, 1) := by decide +kernel
theorem d_V_takeAway_34 : decode prog_1_method_26_code 34 = .ok (.goto 9, 3) := by decide +kernel
theorem d_V_takeAway_37 : decode prog_1_method_26_code 37 = .ok (.iinc 2 1, 3) := by decide +kernel
theorem d_V_takeAway_40 : decode prog_1_method_26_code 40 = .ok (.goto (-38), 3) := by decide +kernel
theorem d_V_takeAway_43 : decode prog_1_method_26_code 43 = .ok (.aload_n 0, 1) := by decide +kernel
theorem d_V_takeAway_44 : decode prog_1_method_26_code 44 = .ok (.aload_n 1, 1) := by decide +kernel
theorem d_V_takeAway_45 : decode prog_1_method_26_code 45 = .ok (.getfield 91, 3) := by decide +kernel
theorem d_V_takeAway_48 : decode prog_1_method_26_code 48 = .ok (.invokevirtual 219, 3) := by decide +kernel
theorem d_V_takeAway_51 : decode prog_1_method_26_code 51 = .ok (.astore_n 2, 1) := by decide +kernel
theorem d_V_takeAway_52 : decode prog_1_method_26_code 52 = .ok (.aload_n 2, 1) := by decide +kernel
theorem d_V_takeAway_53 : decode prog_1_method_26_code 53 = .ok (.ifnull 8, 3) := by decide +kernel
theorem d_V_takeAway_56 : decode prog_1_method_26_code 56 = .ok (.aload_n 2, 1) := by decide +kernel
theorem d_V_takeAway_57 : decode prog_1_method_26_code 57 = .ok (.iconst 1, 1) := by decide +kernel
theorem d_V_takeAway_58 : decode prog_1_method_26_code 58 = .ok (.putfield 161, 3) := by decide +kernel
theorem d_V_takeAway_61 : decode prog_1_method_26_code 61 = .ok (.aload_n 0, 1) := by decide +kernel
theorem d_V_takeAway_62 : decode prog_1_method_26_code 62 = .ok (.getfield 26, 3) := by decide +kernel
theorem d_V_takeAway_65 : decode prog_1_method_26_code 65 = .ok (.aload_n 0, 1) := by decide +kernel
theorem d_V_takeAway_66 : decode prog_1_method_26_code 66 = .ok (.getfield 48, 3) := by decide +kernel
theorem d_V_takeAway_69 : decode prog_1_method_26_code 69 = .ok (.iconst 3, 1) := by decide +kernel
theorem d_V_takeAway_70 : decode prog_1_method_26_code 70 = .ok (.aload_n 1, 1) := by decide +kernel
theorem d_V_takeAway_71 : decode prog_1_method_26_code 71 = .ok (.getfield 106, 3) := by decide +kernel
theorem d_V_takeAway_74 : decode prog_1_method_26_code 74 = .ok (.aload_n 1, 1) := by decide +kernel
theorem d_V_takeAway_75 : decode prog_1_method_26_code 75 = .ok (.getfield 91, 3) := by decide +kernel
theorem d_V_takeAway_78 : decode prog_1_method_26_code 78 = .ok (.invokevirtual 109, 3) := by decide +kernel
theorem d_V_takeAway_81 : decode prog_1_method_26_code 81 = .ok (.return_, 1) := by decide +kernel
theorem d_A_remove_0 : decode prog_21_method_29_code 0 = .ok (.iload_n 1, 1) := by decide +kernel
theorem d_A_remove_1 : decode prog_21_method_29_code 1 = .ok (.aload_n 0, 1) := by decide +kernel
theorem d_A_remove_2 : decode prog_21_method_29_code 2 = .ok (.getfield 48, 3) := by decide +kernel
theorem d_A_remove_5 : decode prog_21_method_29_code 5 = .ok (.invokestatic 118, 3) := by decide +kernel
theorem d_A_remove_8 : decode prog_21_method_29_code 8 = .ok (.pop, 1) := by decide +kernel
theorem d_A_remove_9 : decode prog_21_method_29_code 9 = .ok (.aload_n 0, 1) := by decide +kernel
theorem d_A_remove_10 : decode prog_21_method_29_code 10 = .ok (.getfield 9, 3) := by decide +kernel
theorem d_A_remove_13 : decode prog_21_method_29_code 13 = .ok (.astore_n 2, 1) := by decide +kernel
theorem d_A_remove_14 : decode prog_21_method_29_code 14 = .ok (.aload_n 2, 1) := by decide +kernel
theorem d_A_remove_15 : decode prog_21_method_29_code 15 = .ok (.iload_n 1, 1) := by decide +kernel
theorem d_A_remove_16 : decode prog_21_method_29_code 16 = .ok (.aaload, 1) := by decide +kernel
theorem d_A_remove_17 : decode prog_21_method_29_code 17 = .ok (.astore_n 3, 1) := by decide +kernel
theorem d_A_remove_18 : decode prog_21_method_29_code 18 = .ok (.aload_n 0, 1) := by decide +kernel
theorem d_A_remove_19 : decode prog_21_method_29_code 19 = .ok (.aload_n 2, 1) := by decide +kernel
theorem d_A_remove_20 : decode prog_21_method_29_code 20 = .ok (.iload_n 1, 1) := by decide +kernel
theorem d_A_remove_21 : decode prog_21_method_29_code 21 = .ok (.invokevirtual 144, 3) := by decide +kernel
theorem d_A_remove_24 : decode prog_21_method_29_code 24 = .ok (.aload_n 3, 1) := by decide +kernel
theorem d_A_remove_25 : decode prog_21_method_29_code 25 = .ok (.areturn, 1) := by decide +kernel
theorem d_A_fastRemove_0 : decode prog_21_method_39_code 0 = .ok (.aload_n 0, 1) := by decide +kernel
theorem d_A_fastRemove_1 : decode prog_21_method_39_code 1 = .ok (.dup, 1) := by decide +kernel
theorem d_A_fastRemove_2 : decode prog_21_method_39_code 2 = .ok (.getfield 63, 3) := by decide +kernel
theorem d_A_fastRemove_5 : decode prog_21_method_39_code 5 = .ok (.iconst 1, 1) := by decide +kernel
theorem d_A_fastRemove_6 : decode prog_21_method_39_code 6 = .ok (.iadd, 1) := by decide +kernel
theorem d_A_fastRemove_7 : decode prog_21_method_39_code 7 = .ok (.putfield 63, 3) := by decide +kernel
theorem d_A_fastRemove_10 : decode prog_21_method_39_code 10 = .ok (.aload_n 0, 1) := by decide +kernel
theorem d_A_fastRemove_11 : decode prog_21_method_39_code 11 = .ok (.getfield 48, 3) := by decide +kernel
theorem d_A_fastRemove_14 : decode prog_21_method_39_code 14 = .ok (.iconst 1, 1) := by decide +kernel
theorem d_A_fastRemove_15 : decode prog_21_method_39_code 15 = .ok (.isub, 1) := by decide +kernel
theorem d_A_fastRemove_16 : decode prog_21_method_39_code 16 = .ok (.dup, 1) := by decide +kernel
theorem d_A_fastRemove_17 : decode prog_21_method_39_code 17 = .ok (.istore_n 3, 1) := by decide +kernel
theorem d_A_fastRemove_18 : decode prog_21_method_39_code 18 = .ok (.iload_n 2, 1) := by decide +kernel
theorem d_A_fastRemove_19 : decode prog_21_method_39_code 19 = .ok (.if_icmp .le 15, 3) := by decide +kernel
theorem d_A_fastRemove_22 : decode prog_21_method_39_code 22 = .ok (.aload_n 1, 1) := by decide +kernel
theorem d_A_fastRemove_23 : decode prog_21_method_39_code 23 = .ok (.iload_n 2, 1) := by decide +kernel
theorem d_A_fastRemove_24 : decode prog_21_method_39_code 24 = .ok (.iconst 1, 1) := by decide +kernel
theorem d_A_fastRemove_25 : decode prog_21_method_39_code 25 = .ok (.iadd, 1) := by decide +kernel
theorem d_A_fastRemove_26 : decode prog_21_method_39_code 26 = .ok (.aload_n 1, 1) := by decide +kernel
theorem d_A_fastRemove_27 : decode prog_21_method_39_code 27 = .ok (.iload_n 2, 1) := by decide +kernel
theorem d_A_fastRemove_28 : decode prog_21_method_39_code 28 = .ok (.iload_n 3, 1) := by decide +kernel
theorem d_A_fastRemove_29 : decode prog_21_method_39_code 29 = .ok (.iload_n 2, 1) := by decide +kernel
theorem d_A_fastRemove_30 : decode prog_21_method_39_code 30 = .ok (.isub, 1) := by decide +kernel
theorem d_A_fastRemove_31 : decode prog_21_method_39_code 31 = .ok (.invokestatic 112, 3) := by decide +kernel
theorem d_A_fastRemove_34 : decode prog_21_method_39_code 34 = .ok (.aload_n 1, 1) := by decide +kernel
theorem d_A_fastRemove_35 : decode prog_21_method_39_code 35 = .ok (.aload_n 0, 1) := by decide +kernel
theorem d_A_fastRemove_36 : decode prog_21_method_39_code 36 = .ok (.iload_n 3, 1) := by decide +kernel
theorem d_A_fastRemove_37 : decode prog_21_method_39_code 37 = .ok (.dup_x1, 1) := by decide +kernel
theorem d_A_fastRemove_38 : decode prog_21_method_39_code 38 = .ok (.putfield 48, 3) := by decide +kernel
theorem d_A_fastRemove_41 : decode prog_21_method_39_code 41 = .ok (.aconst_null, 1) := by decide +kernel
theorem d_A_fastRemove_42 : decode prog_21_method_39_code 42 = .ok (.aastore, 1) := by decide +kernel
theorem d_A_fastRemove_43 : decode prog_21_method_39_code 43 = .ok (.return_, 1) := by decide +kernel
theorem d_W_retain_0 : decode method_6_code 0 = .ok (.aload_n 0, 1) := by decide +kernel
theorem d_W_retain_1 : decode method_6_code 1 = .ok (.iload_n 1, 1) := by decide +kernel
theorem d_W_retain_2 : decode method_6_code 2 = .ok (.iload_n 2, 1) := by decide +kernel
theorem d_W_retain_3 : decode method_6_code 3 = .ok (.iload_n 3, 1) := by decide +kernel
theorem d_W_retain_4 : decode method_6_code 4 = .ok (.invokevirtual 27, 3) := by decide +kernel
theorem d_W_retain_7 : decode method_6_code 7 = .ok (.goto 15, 3) := by decide +kernel
theorem d_W_retain_10 : decode method_6_code 10 = .ok (.astore 4, 2) := by decide +kernel
theorem d_W_retain_12 : decode method_6_code 12 = .ok (.iconst 1, 1) := by decide +kernel
theorem d_W_retain_13 : decode method_6_code 13 = .ok (.ireturn, 1) := by decide +kernel
theorem d_W_retain_14 : decode method_6_code 14 = .ok (.astore 4, 2) := by decide +kernel
theorem d_W_retain_16 : decode method_6_code 16 = .ok (.iconst 2, 1) := by decide +kernel
theorem d_W_retain_17 : decode method_6_code 17 = .ok (.ireturn, 1) := by decide +kernel
theorem d_W_retain_18 : decode method_6_code 18 = .ok (.astore 4, 2) := by decide +kernel
theorem d_W_retain_20 : decode method_6_code 20 = .ok (.iconst 3, 1) := by decide +kernel
theorem d_W_retain_21 : decode method_6_code 21 = .ok (.ireturn, 1) := by decide +kernel
theorem d_W_retain_22 : decode method_6_code 22 = .ok (.iconst 0, 1) := by decide +kernel
theorem d_W_retain_23 : decode method_6_code 23 = .ok (.ireturn, 1) := by decide +kernel
theorem d_V_retain_0 : decode prog_1_method_5_code 0 = .ok (.aload_n 0, 1) := by decide +kernel
theorem d_V_retain_1 : decode prog_1_method_5_code 1 = .ok (.iload_n 1, 1) := by decide +kernel
theorem d_V_retain_2 : decode prog_1_method_5_code 2 = .ok (.invokevirtual 94, 3) := by decide +kernel
theorem d_V_retain_5 : decode prog_1_method_5_code 5 = .ok (.astore 4, 2) := by decide +kernel
theorem d_V_retain_7 : decode prog_1_method_5_code 7 = .ok (.iload_n 2, 1) := by decide +kernel
theorem d_V_retain_8 : decode prog_1_method_5_code 8 = .ok (.iconst 0, 1) := by decide +kernel
theorem d_V_retain_9 : decode prog_1_method_5_code 9 = .ok (.sipush 10000, 3) := by decide +kernel
theorem d_V_retain_12 : decode prog_1_method_5_code 12 = .ok (.invokestatic 31, 3) := by decide +kernel
theorem d_V_retain_15 : decode prog_1_method_5_code 15 = .ok (.invokestatic 35, 3) := by decide +kernel
theorem d_V_retain_18 : decode prog_1_method_5_code 18 = .ok (.aload_n 0, 1) := by decide +kernel
theorem d_V_retain_19 : decode prog_1_method_5_code 19 = .ok (.getfield 48, 3) := by decide +kernel
theorem d_V_retain_22 : decode prog_1_method_5_code 22 = .ok (.iload_n 2, 1) := by decide +kernel
theorem d_V_retain_23 : decode prog_1_method_5_code 23 = .ok (.iadd, 1) := by decide +kernel
theorem d_V_retain_24 : decode prog_1_method_5_code 24 = .ok (.istore 5, 2) := by decide +kernel
theorem d_V_retain_26 : decode prog_1_method_5_code 26 = .ok (.aload 4, 2) := by decide +kernel
theorem d_V_retain_28 : decode prog_1_method_5_code 28 = .ok (.aload_n 0, 1) := by decide +kernel
theorem d_V_retain_29 : decode prog_1_method_5_code 29 = .ok (.getfield 48, 3) := by decide +kernel
theorem d_V_retain_32 : decode prog_1_method_5_code 32 = .ok (.invokevirtual 69, 3) := by decide +kernel
theorem d_V_retain_35 : decode prog_1_method_5_code 35 = .ok (.ifCond .eq 27, 3) := by decide +kernel
theorem d_V_retain_38 : decode prog_1_method_5_code 38 = .ok (.iload_n 3, 1) := by decide +kernel
theorem d_V_retain_39 : decode prog_1_method_5_code 39 = .ok (.ifCond .eq 13, 3) := by decide +kernel
theorem d_V_retain_42 : decode prog_1_method_5_code 42 = .ok (.iload 5, 2) := by decide +kernel
theorem d_V_retain_44 : decode prog_1_method_5_code 44 = .ok (.aload 4, 2) := by decide +kernel
theorem d_V_retain_46 : decode prog_1_method_5_code 46 = .ok (.getfield 97, 3) := by decide +kernel
theorem d_V_retain_49 : decode prog_1_method_5_code 49 = .ok (.if_icmp .ge 13, 3) := by decide +kernel
theorem d_V_retain_52 : decode prog_1_method_5_code 52 = .ok (.new 80, 3) := by decide +kernel
theorem d_V_retain_55 : decode prog_1_method_5_code 55 = .ok (.dup, 1) := by decide +kernel
theorem d_V_retain_56 : decode prog_1_method_5_code 56 = .ok (.ldc 100, 2) := by decide +kernel
theorem d_V_retain_58 : decode prog_1_method_5_code 58 = .ok (.invokespecial 84, 3) := by decide +kernel
theorem d_V_retain_61 : decode prog_1_method_5_code 61 = .ok (.athrow, 1) := by decide +kernel
theorem d_V_retain_62 : decode prog_1_method_5_code 62 = .ok (.aload 4, 2) := by decide +kernel
theorem d_V_retain_64 : decode prog_1_method_5_code 64 = .ok (.iload 5, 2) := by decide +kernel
theorem d_V_retain_66 : decode prog_1_method_5_code 66 = .ok (.putfield 97, 3) := by decide +kernel
theorem d_V_retain_69 : decode prog_1_method_5_code 69 = .ok (.aload 4, 2) := by decide +kernel
theorem d_V_retain_71 : decode prog_1_method_5_code 71 = .ok (.iload_n 3, 1) := by decide +kernel
theorem d_V_retain_72 : decode prog_1_method_5_code 72 = .ok (.putfield 102, 3) := by decide +kernel
theorem d_V_retain_75 : decode prog_1_method_5_code 75 = .ok (.aload_n 0, 1) := by decide +kernel
theorem d_V_retain_76 : decode prog_1_method_5_code 76 = .ok (.getfield 26, 3) := by decide +kernel
theorem d_V_retain_79 : decode prog_1_method_5_code 79 = .ok (.aload_n 0, 1) := by decide +kernel
theorem d_V_retain_80 : decode prog_1_method_5_code 80 = .ok (.getfield 48, 3) := by decide +kernel
theorem d_V_retain_83 : decode prog_1_method_5_code 83 = .ok (.iconst 5, 1) := by decide +kernel
theorem d_V_retain_84 : decode prog_1_method_5_code 84 = .ok (.aload 4, 2) := by decide +kernel
theorem d_V_retain_86 : decode prog_1_method_5_code 86 = .ok (.getfield 106, 3) := by decide +kernel
theorem d_V_retain_89 : decode prog_1_method_5_code 89 = .ok (.iload 5, 2) := by decide +kernel
theorem d_V_retain_91 : decode prog_1_method_5_code 91 = .ok (.invokevirtual 109, 3) := by decide +kernel
theorem d_V_retain_94 : decode prog_1_method_5_code 94 = .ok (.return_, 1) := by decide +kernel
