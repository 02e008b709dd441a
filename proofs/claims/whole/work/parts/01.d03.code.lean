theorem d_V_goThroughRules_0 : decode prog_1_method_28_code 0 = .ok (.iconst 0, 1) := by decide +kernel
theorem d_V_goThroughRules_1 : decode prog_1_method_28_code 1 = .ok (.istore_n 2, 1) := by decide +kernel
theorem d_V_goThroughRules_2 : decode prog_1_method_28_code 2 = .ok (.iload_n 2, 1) := by decide +kernel
theorem d_V_goThroughRules_3 : decode prog_1_method_28_code 3 = .ok (.aload_n 0, 1) := by decide +kernel
theorem d_V_goThroughRules_4 : decode prog_1_method_28_code 4 = .ok (.getfield 18, 3) := by decide +kernel
theorem d_V_goThroughRules_7 : decode prog_1_method_28_code 7 = .ok (.arraylength, 1) := by decide +kernel
theorem d_V_goThroughRules_8 : decode prog_1_method_28_code 8 = .ok (.if_icmp .ge 60, 3) := by decide +kernel
theorem d_V_goThroughRules_11 : decode prog_1_method_28_code 11 = .ok (.aload_n 0, 1) := by decide +kernel
theorem d_V_goThroughRules_12 : decode prog_1_method_28_code 12 = .ok (.getfield 18, 3) := by decide +kernel
theorem d_V_goThroughRules_15 : decode prog_1_method_28_code 15 = .ok (.iload_n 2, 1) := by decide +kernel
theorem d_V_goThroughRules_16 : decode prog_1_method_28_code 16 = .ok (.aaload, 1) := by decide +kernel
theorem d_V_goThroughRules_17 : decode prog_1_method_28_code 17 = .ok (.astore_n 3, 1) := by decide +kernel
theorem d_V_goThroughRules_18 : decode prog_1_method_28_code 18 = .ok (.aload_n 3, 1) := by decide +kernel
theorem d_V_goThroughRules_19 : decode prog_1_method_28_code 19 = .ok (.aload_n 1, 1) := by decide +kernel
theorem d_V_goThroughRules_20 : decode prog_1_method_28_code 20 = .ok (.aload_n 0, 1) := by decide +kernel
theorem d_V_goThroughRules_21 : decode prog_1_method_28_code 21 = .ok (.getfield 48, 3) := by decide +kernel
theorem d_V_goThroughRules_24 : decode prog_1_method_28_code 24 = .ok (.invokevirtual 236, 3) := by decide +kernel
theorem d_V_goThroughRules_27 : decode prog_1_method_28_code 27 = .ok (.ifCond .ne 6, 3) := by decide +kernel
theorem d_V_goThroughRules_30 : decode prog_1_method_28_code 30 = .ok (.goto 32, 3) := by decide +kernel
theorem d_V_goThroughRules_33 : decode prog_1_method_28_code 33 = .ok (.aload_n 3, 1) := by decide +kernel
theorem d_V_goThroughRules_34 : decode prog_1_method_28_code 34 = .ok (.getfield 123, 3) := by decide +kernel
theorem d_V_goThroughRules_37 : decode prog_1_method_28_code 37 = .ok (.iconst 4, 1) := by decide +kernel
theorem d_V_goThroughRules_38 : decode prog_1_method_28_code 38 = .ok (.if_icmp .eq 15, 3) := by decide +kernel
theorem d_V_goThroughRules_41 : decode prog_1_method_28_code 41 = .ok (.aload_n 0, 1) := by decide +kernel
theorem d_V_goThroughRules_42 : decode prog_1_method_28_code 42 = .ok (.aload_n 1, 1) := by decide +kernel
theorem d_V_goThroughRules_43 : decode prog_1_method_28_code 43 = .ok (.aload_n 3, 1) := by decide +kernel
theorem d_V_goThroughRules_44 : decode prog_1_method_28_code 44 = .ok (.getfield 123, 3) := by decide +kernel
theorem d_V_goThroughRules_47 : decode prog_1_method_28_code 47 = .ok (.invokevirtual 240, 3) := by decide +kernel
theorem d_V_goThroughRules_50 : decode prog_1_method_28_code 50 = .ok (.goto 12, 3) := by decide +kernel
theorem d_V_goThroughRules_53 : decode prog_1_method_28_code 53 = .ok (.aload_n 0, 1) := by decide +kernel
theorem d_V_goThroughRules_54 : decode prog_1_method_28_code 54 = .ok (.aload_n 1, 1) := by decide +kernel
theorem d_V_goThroughRules_55 : decode prog_1_method_28_code 55 = .ok (.invokevirtual 244, 3) := by decide +kernel
theorem d_V_goThroughRules_58 : decode prog_1_method_28_code 58 = .ok (.ifCond .eq 4, 3) := by decide +kernel
theorem d_V_goThroughRules_61 : decode prog_1_method_28_code 61 = .ok (.return_, 1) := by decide +kernel
theorem d_V_goThroughRules_62 : decode prog_1_method_28_code 62 = .ok (.iinc 2 1, 3) := by decide +kernel
theorem d_V_goThroughRules_65 : decode prog_1_method_28_code 65 = .ok (.goto (-63), 3) := by decide +kernel
theorem d_V_goThroughRules_68 : decode prog_1_method_28_code 68 = .ok (.return_, 1) := by decide +kernel
theorem d_U_isDue_0 : decode prog_3_method_4_code 0 = .ok (.aload_n 0, 1) := by decide +kernel
theorem d_U_isDue_1 : decode prog_3_method_4_code 1 = .ok (.invokevirtual 25, 3) := by decide +kernel
theorem d_U_isDue_4 : decode prog_3_method_4_code 4 = .ok (.ifCond .ne 50, 3) := by decide +kernel
theorem d_U_isDue_7 : decode prog_3_method_4_code 7 = .ok (.aload_n 0, 1) := by decide +kernel
theorem d_U_isDue_8 : decode prog_3_method_4_code 8 = .ok (.getfield 9, 3) := by decide +kernel
theorem d_U_isDue_11 : decode prog_3_method_4_code 11 = .ok (.iconst (-1), 1) := by decide +kernel
theorem d_U_isDue_12 : decode prog_3_method_4_code 12 = .ok (.if_icmp .eq 14, 3) := by decide +kernel
theorem d_U_isDue_15 : decode prog_3_method_4_code 15 = .ok (.aload_n 0, 1) := by decide +kernel
theorem d_U_isDue_16 : decode prog_3_method_4_code 16 = .ok (.getfield 9, 3) := by decide +kernel
theorem d_U_isDue_19 : decode prog_3_method_4_code 19 = .ok (.aload_n 1, 1) := by decide +kernel
theorem d_U_isDue_20 : decode prog_3_method_4_code 20 = .ok (.getfield 29, 3) := by decide +kernel
theorem d_U_isDue_23 : decode prog_3_method_4_code 23 = .ok (.if_icmp .ne 31, 3) := by decide +kernel
theorem d_U_isDue_26 : decode prog_3_method_4_code 26 = .ok (.aload_n 0, 1) := by decide +kernel
theorem d_U_isDue_27 : decode prog_3_method_4_code 27 = .ok (.getfield 15, 3) := by decide +kernel
theorem d_U_isDue_30 : decode prog_3_method_4_code 30 = .ok (.aload_n 1, 1) := by decide +kernel
theorem d_U_isDue_31 : decode prog_3_method_4_code 31 = .ok (.getfield 32, 3) := by decide +kernel
theorem d_U_isDue_34 : decode prog_3_method_4_code 34 = .ok (.if_icmp .ne 20, 3) := by decide +kernel
theorem d_U_isDue_37 : decode prog_3_method_4_code 37 = .ok (.iload_n 2, 1) := by decide +kernel
theorem d_U_isDue_38 : decode prog_3_method_4_code 38 = .ok (.aload_n 1, 1) := by decide +kernel
theorem d_U_isDue_39 : decode prog_3_method_4_code 39 = .ok (.invokevirtual 35, 3) := by decide +kernel
theorem d_U_isDue_42 : decode prog_3_method_4_code 42 = .ok (.aload_n 0, 1) := by decide +kernel
theorem d_U_isDue_43 : decode prog_3_method_4_code 43 = .ok (.getfield 19, 3) := by decide +kernel
theorem d_U_isDue_46 : decode prog_3_method_4_code 46 = .ok (.iadd, 1) := by decide +kernel
theorem d_U_isDue_47 : decode prog_3_method_4_code 47 = .ok (.if_icmp .lt 7, 3) := by decide +kernel
theorem d_U_isDue_50 : decode prog_3_method_4_code 50 = .ok (.iconst 1, 1) := by decide +kernel
theorem d_U_isDue_51 : decode prog_3_method_4_code 51 = .ok (.goto 4, 3) := by decide +kernel
theorem d_U_isDue_54 : decode prog_3_method_4_code 54 = .ok (.iconst 0, 1) := by decide +kernel
theorem d_U_isDue_55 : decode prog_3_method_4_code 55 = .ok (.ireturn, 1) := by decide +kernel
theorem d_N_since_0 : decode prog_4_method_5_code 0 = .ok (.aload_n 0, 1) := by decide +kernel
theorem d_N_since_1 : decode prog_4_method_5_code 1 = .ok (.getfield 24, 3) := by decide +kernel
theorem d_N_since_4 : decode prog_4_method_5_code 4 = .ok (.ifCond .eq 10, 3) := by decide +kernel
theorem d_N_since_7 : decode prog_4_method_5_code 7 = .ok (.aload_n 0, 1) := by decide +kernel
theorem d_N_since_8 : decode prog_4_method_5_code 8 = .ok (.getfield 18, 3) := by decide +kernel
theorem d_N_since_11 : decode prog_4_method_5_code 11 = .ok (.goto 7, 3) := by decide +kernel
theorem d_N_since_14 : decode prog_4_method_5_code 14 = .ok (.aload_n 0, 1) := by decide +kernel
theorem d_N_since_15 : decode prog_4_method_5_code 15 = .ok (.getfield 34, 3) := by decide +kernel
theorem d_N_since_18 : decode prog_4_method_5_code 18 = .ok (.ireturn, 1) := by decide +kernel
theorem d_V_cool_0 : decode prog_1_method_29_code 0 = .ok (.iload_n 2, 1) := by decide +kernel
theorem d_V_cool_1 : decode prog_1_method_29_code 1 = .ok (.aload_n 1, 1) := by decide +kernel
theorem d_V_cool_2 : decode prog_1_method_29_code 2 = .ok (.getfield 131, 3) := by decide +kernel
theorem d_V_cool_5 : decode prog_1_method_29_code 5 = .ok (.if_icmp .le 25, 3) := by decide +kernel
theorem d_V_cool_8 : decode prog_1_method_29_code 8 = .ok (.aload_n 1, 1) := by decide +kernel
theorem d_V_cool_9 : decode prog_1_method_29_code 9 = .ok (.iload_n 2, 1) := by decide +kernel
theorem d_V_cool_10 : decode prog_1_method_29_code 10 = .ok (.putfield 131, 3) := by decide +kernel
theorem d_V_cool_13 : decode prog_1_method_29_code 13 = .ok (.aload_n 0, 1) := by decide +kernel
theorem d_V_cool_14 : decode prog_1_method_29_code 14 = .ok (.getfield 26, 3) := by decide +kernel
theorem d_V_cool_17 : decode prog_1_method_29_code 17 = .ok (.aload_n 0, 1) := by decide +kernel
theorem d_V_cool_18 : decode prog_1_method_29_code 18 = .ok (.getfield 48, 3) := by decide +kernel
theorem d_V_cool_21 : decode prog_1_method_29_code 21 = .ok (.iconst 4, 1) := by decide +kernel
theorem d_V_cool_22 : decode prog_1_method_29_code 22 = .ok (.aload_n 1, 1) := by decide +kernel
theorem d_V_cool_23 : decode prog_1_method_29_code 23 = .ok (.getfield 106, 3) := by decide +kernel
theorem d_V_cool_26 : decode prog_1_method_29_code 26 = .ok (.iload_n 2, 1) := by decide +kernel
theorem d_V_cool_27 : decode prog_1_method_29_code 27 = .ok (.invokevirtual 109, 3) := by decide +kernel
theorem d_V_cool_30 : decode prog_1_method_29_code 30 = .ok (.return_, 1) := by decide +kernel
theorem d_V_expire_0 : decode prog_1_method_30_code 0 = .ok (.aload_n 1, 1) := by decide +kernel
theorem d_V_expire_1 : decode prog_1_method_30_code 1 = .ok (.getfield 161, 3) := by decide +kernel
theorem d_V_expire_4 : decode prog_1_method_30_code 4 = .ok (.ifCond .eq 13, 3) := by decide +kernel
theorem d_V_expire_7 : decode prog_1_method_30_code 7 = .ok (.aload_n 0, 1) := by decide +kernel
theorem d_V_expire_8 : decode prog_1_method_30_code 8 = .ok (.invokevirtual 200, 3) := by decide +kernel
theorem d_V_expire_11 : decode prog_1_method_30_code 11 = .ok (.ifCond .eq 19, 3) := by decide +kernel
theorem d_V_expire_14 : decode prog_1_method_30_code 14 = .ok (.goto 14, 3) := by decide +kernel
theorem d_V_expire_17 : decode prog_1_method_30_code 17 = .ok (.aload_n 1, 1) := by decide +kernel
theorem d_V_expire_18 : decode prog_1_method_30_code 18 = .ok (.aload_n 0, 1) := by decide +kernel
theorem d_V_expire_19 : decode prog_1_method_30_code 19 = .ok (.getfield 48, 3) := by decide +kernel
theorem d_V_expire_22 : decode prog_1_method_30_code 22 = .ok (.invokevirtual 164, 3) := by decide +kernel
theorem d_V_expire_25 : decode prog_1_method_30_code 25 = .ok (.ifCond .eq 5, 3) := by decide +kernel
theorem d_V_expire_28 : decode prog_1_method_30_code 28 = .ok (.iconst 0, 1) := by decide +kernel
theorem d_V_expire_29 : decode prog_1_method_30_code 29 = .ok (.ireturn, 1) := by decide +kernel
theorem d_V_expire_30 : decode prog_1_method_30_code 30 = .ok (.aload_n 1, 1) := by decide +kernel
theorem d_V_expire_31 : decode prog_1_method_30_code 31 = .ok (.getfield 161, 3) := by decide +kernel
theorem d_V_expire_34 : decode prog_1_method_30_code 34 = .ok (.ifCond .eq 30, 3) := by decide +kernel
theorem d_V_expire_37 : decode prog_1_method_30_code 37 = .ok (.aload_n 0, 1) := by decide +kernel
theorem d_V_expire_38 : decode prog_1_method_30_code 38 = .ok (.new 42, 3) := by decide +kernel
theorem d_V_expire_41 : decode prog_1_method_30_code 41 = .ok (.dup, 1) := by decide +kernel
theorem d_V_expire_42 : decode prog_1_method_30_code 42 = .ok (.aload_n 0, 1) := by decide +kernel
theorem d_V_expire_43 : decode prog_1_method_30_code 43 = .ok (.getfield 44, 3) := by decide +kernel
theorem d_V_expire_46 : decode prog_1_method_30_code 46 = .ok (.aload_n 1, 1) := by decide +kernel
theorem d_V_expire_47 : decode prog_1_method_30_code 47 = .ok (.getfield 91, 3) := by decide +kernel
theorem d_V_expire_50 : decode prog_1_method_30_code 50 = .ok (.aload_n 0, 1) := by decide +kernel
theorem d_V_expire_51 : decode prog_1_method_30_code 51 = .ok (.getfield 48, 3) := by decide +kernel
theorem d_V_expire_54 : decode prog_1_method_30_code 54 = .ok (.invokespecial 51, 3) := by decide +kernel
theorem d_V_expire_57 : decode prog_1_method_30_code 57 = .ok (.invokevirtual 58, 3) := by decide +kernel
theorem d_V_expire_60 : decode prog_1_method_30_code 60 = .ok (.pop, 1) := by decide +kernel
theorem d_V_expire_61 : decode prog_1_method_30_code 61 = .ok (.goto 8, 3) := by decide +kernel
theorem d_V_expire_64 : decode prog_1_method_30_code 64 = .ok (.aload_n 0, 1) := by decide +kernel
theorem d_V_expire_65 : decode prog_1_method_30_code 65 = .ok (.aload_n 1, 1) := by decide +kernel
theorem d_V_expire_66 : decode prog_1_method_30_code 66 = .ok (.invokevirtual 87, 3) := by decide +kernel
theorem d_V_expire_69 : decode prog_1_method_30_code 69 = .ok (.iconst 1, 1) := by decide +kernel
theorem d_V_expire_70 : decode prog_1_method_30_code 70 = .ok (.ireturn, 1) := by decide +kernel
theorem d_N_isGuarded_0 : decode prog_4_method_9_code 0 = .ok (.aload_n 0, 1) := by decide +kernel
theorem d_N_isGuarded_1 : decode prog_4_method_9_code 1 = .ok (.invokevirtual 50, 3) := by decide +kernel
theorem d_N_isGuarded_4 : decode prog_4_method_9_code 4 = .ok (.ifCond .ne 11, 3) := by decide +kernel
theorem d_N_isGuarded_7 : decode prog_4_method_9_code 7 = .ok (.aload_n 0, 1) := by decide +kernel
theorem d_N_isGuarded_8 : decode prog_4_method_9_code 8 = .ok (.iload_n 1, 1) := by decide +kernel
theorem d_N_isGuarded_9 : decode prog_4_method_9_code 9 = .ok (.invokevirtual 46, 3) := by decide +kernel
theorem d_N_isGuarded_12 : decode prog_4_method_9_code 12 = .ok (.ifCond .eq 7, 3) := by decide +kernel
theorem d_N_isGuarded_15 : decode prog_4_method_9_code 15 = .ok (.iconst 1, 1) := by decide +kernel
theorem d_N_isGuarded_16 : decode prog_4_method_9_code 16 = .ok (.goto 4, 3) := by decide +kernel
theorem d_N_isGuarded_19 : decode prog_4_method_9_code 19 = .ok (.iconst 0, 1) := by decide +kernel
theorem d_N_isGuarded_20 : decode prog_4_method_9_code 20 = .ok (.ireturn, 1) := by decide +kernel
theorem d_V_takeLoneMarkersAway_0 : decode prog_1_method_31_code 0 = .ok (.iconst 0, 1) := by decide +kernel
theorem d_V_takeLoneMarkersAway_1 : decode prog_1_method_31_code 1 = .ok (.istore_n 1, 1) := by decide +kernel
theorem d_V_takeLoneMarkersAway_2 : decode prog_1_method_31_code 2 = .ok (.aload_n 0, 1) := by decide +kernel
theorem d_V_takeLoneMarkersAway_3 : decode prog_1_method_31_code 3 = .ok (.getfield 10, 3) := by decide +kernel
theorem d_V_takeLoneMarkersAway_6 : decode prog_1_method_31_code 6 = .ok (.invokevirtual 188, 3) := by decide +kernel
theorem d_V_takeLoneMarkersAway_9 : decode prog_1_method_31_code 9 = .ok (.istore_n 2, 1) := by decide +kernel
theorem d_V_takeLoneMarkersAway_10 : decode prog_1_method_31_code 10 = .ok (.iload_n 2, 1) := by decide +kernel
theorem d_V_takeLoneMarkersAway_11 : decode prog_1_method_31_code 11 = .ok (.ifCond .le 58, 3) := by decide +kernel
theorem d_V_takeLoneMarkersAway_14 : decode prog_1_method_31_code 14 = .ok (.iload_n 1, 1) := by decide +kernel
theorem d_V_takeLoneMarkersAway_15 : decode prog_1_method_31_code 15 = .ok (.aload_n 0, 1) := by decide +kernel
theorem d_V_takeLoneMarkersAway_16 : decode prog_1_method_31_code 16 = .ok (.getfield 10, 3) := by decide +kernel
theorem d_V_takeLoneMarkersAway_19 : decode prog_1_method_31_code 19 = .ok (.invokevirtual 188, 3) := by decide +kernel
theorem d_V_takeLoneMarkersAway_22 : decode prog_1_method_31_code 22 = .ok (.if_icmp .ge 47, 3) := by decide +kernel
theorem d_V_takeLoneMarkersAway_25 : decode prog_1_method_31_code 25 = .ok (.aload_n 0, 1) := by decide +kernel
theorem d_V_takeLoneMarkersAway_26 : decode prog_1_method_31_code 26 = .ok (.getfield 10, 3) := by decide +kernel
theorem d_V_takeLoneMarkersAway_29 : decode prog_1_method_31_code 29 = .ok (.iload_n 1, 1) := by decide +kernel
theorem d_V_takeLoneMarkersAway_30 : decode prog_1_method_31_code 30 = .ok (.invokevirtual 205, 3) := by decide +kernel
theorem d_V_takeLoneMarkersAway_33 : decode prog_1_method_31_code 33 = .ok (.checkcast 42, 3) := by decide +kernel
theorem d_V_takeLoneMarkersAway_36 : decode prog_1_method_31_code 36 = .ok (.astore_n 3, 1) := by decide +kernel
theorem d_V_takeLoneMarkersAway_37 : decode prog_1_method_31_code 37 = .ok (.aload_n 3, 1) := by decide +kernel
theorem d_V_takeLoneMarkersAway_38 : decode prog_1_method_31_code 38 = .ok (.invokevirtual 214, 3) := by decide +kernel
theorem d_V_takeLoneMarkersAway_41 : decode prog_1_method_31_code 41 = .ok (.ifCond .eq 19, 3) := by decide +kernel
theorem d_V_takeLoneMarkersAway_44 : decode prog_1_method_31_code 44 = .ok (.aload_n 0, 1) := by decide +kernel
theorem d_V_takeLoneMarkersAway_45 : decode prog_1_method_31_code 45 = .ok (.aload_n 3, 1) := by decide +kernel
theorem d_V_takeLoneMarkersAway_46 : decode prog_1_method_31_code 46 = .ok (.invokevirtual 248, 3) := by decide +kernel
theorem d_V_takeLoneMarkersAway_49 : decode prog_1_method_31_code 49 = .ok (.ifCond .eq 11, 3) := by decide +kernel
theorem d_V_takeLoneMarkersAway_52 : decode prog_1_method_31_code 52 = .ok (.aload_n 0, 1) := by decide +kernel
theorem d_V_takeLoneMarkersAway_53 : decode prog_1_method_31_code 53 = .ok (.aload_n 3, 1) := by decide +kernel
theorem d_V_takeLoneMarkersAway_54 : decode prog_1_method_31_code 54 = .ok (.invokevirtual 87, 3) := by decide +kernel
theorem d_V_takeLoneMarkersAway_57 : decode prog_1_method_31_code 57 = .ok (.goto 6, 3) := by decide +kernel
theorem d_V_takeLoneMarkersAway_60 : decode prog_1_method_31_code 60 = .ok (.iinc 1 1, 3) := by decide +kernel
theorem d_V_takeLoneMarkersAway_63 : decode prog_1_method_31_code 63 = .ok (.iinc 2 (-1), 3) := by decide +kernel
theorem d_V_takeLoneMarkersAway_66 : decode prog_1_method_31_code 66 = .ok (.goto (-56), 3) := by decide +kernel
theorem d_V_takeLoneMarkersAway_69 : decode prog_1_method_31_code 69 = .ok (.return_, 1) := by decide +kernel
theorem d_V_isAlone_0 : decode prog_1_method_32_code 0 = .ok (.iconst 0, 1) := by decide +kernel
theorem d_V_isAlone_1 : decode prog_1_method_32_code 1 = .ok (.istore_n 2, 1) := by decide +kernel
theorem d_V_isAlone_2 : decode prog_1_method_32_code 2 = .ok (.iload_n 2, 1) := by decide +kernel
theorem d_V_isAlone_3 : decode prog_1_method_32_code 3 = .ok (.aload_n 0, 1) := by decide +kernel
theorem d_V_isAlone_4 : decode prog_1_method_32_code 4 = .ok (.getfield 10, 3) := by decide +kernel
theorem d_V_isAlone_7 : decode prog_1_method_32_code 7 = .ok (.invokevirtual 188, 3) := by decide +kernel
theorem d_V_isAlone_10 : decode prog_1_method_32_code 10 = .ok (.if_icmp .ge 39, 3) := by decide +kernel
theorem d_V_isAlone_13 : decode prog_1_method_32_code 13 = .ok (.aload_n 0, 1) := by decide +kernel
theorem d_V_isAlone_14 : decode prog_1_method_32_code 14 = .ok (.getfield 10, 3) := by decide +kernel
theorem d_V_isAlone_17 : decode prog_1_method_32_code 17 = .ok (.iload_n 2, 1) := by decide +kernel
theorem d_V_isAlone_18 : decode prog_1_method_32_code 18 = .ok (.invokevirtual 205, 3) := by decide +kernel
theorem d_V_isAlone_21 : decode prog_1_method_32_code 21 = .ok (.checkcast 42, 3) := by decide +kernel
theorem d_V_isAlone_24 : decode prog_1_method_32_code 24 = .ok (.astore_n 3, 1) := by decide +kernel
theorem d_V_isAlone_25 : decode prog_1_method_32_code 25 = .ok (.aload_n 3, 1) := by decide +kernel
theorem d_V_isAlone_26 : decode prog_1_method_32_code 26 = .ok (.aload_n 1, 1) := by decide +kernel
theorem d_V_isAlone_27 : decode prog_1_method_32_code 27 = .ok (.if_acmp .eq 16, 3) := by decide +kernel
theorem d_V_isAlone_30 : decode prog_1_method_32_code 30 = .ok (.aload_n 3, 1) := by decide +kernel
theorem d_V_isAlone_31 : decode prog_1_method_32_code 31 = .ok (.getfield 91, 3) := by decide +kernel
theorem d_V_isAlone_34 : decode prog_1_method_32_code 34 = .ok (.aload_n 1, 1) := by decide +kernel
theorem d_V_isAlone_35 : decode prog_1_method_32_code 35 = .ok (.getfield 91, 3) := by decide +kernel
theorem d_V_isAlone_38 : decode prog_1_method_32_code 38 = .ok (.if_icmp .ne 5, 3) := by decide +kernel
theorem d_V_isAlone_41 : decode prog_1_method_32_code 41 = .ok (.iconst 0, 1) := by decide +kernel
theorem d_V_isAlone_42 : decode prog_1_method_32_code 42 = .ok (.ireturn, 1) := by decide +kernel
theorem d_V_isAlone_43 : decode prog_1_method_32_code 43 = .ok (.iinc 2 1, 3) := by decide +kernel
theorem d_V_isAlone_46 : decode prog_1_method_32_code 46 = .ok (.goto (-44), 3) := by decide +kernel
theorem d_V_isAlone_49 : decode prog_1_method_32_code 49 = .ok (.iconst 1, 1) := by decide +kernel
theorem d_V_isAlone_50 : decode prog_1_method_32_code 50 = .ok (.ireturn, 1) := by decide +kernel
theorem d_W_current_0 : decode method_13_code 0 = .ok (.aload_n 2, 1) := by decide +kernel
theorem d_W_current_1 : decode method_13_code 1 = .ok (.iconst 0, 1) := by decide +kernel
theorem d_W_current_2 : decode method_13_code 2 = .ok (.aload_n 0, 1) := by decide +kernel
theorem d_W_current_3 : decode method_13_code 3 = .ok (.iload_n 1, 1) := by decide +kernel
theorem d_W_current_4 : decode method_13_code 4 = .ok (.invokevirtual 53, 3) := by decide +kernel
theorem d_W_current_7 : decode method_13_code 7 = .ok (.i2l, 1) := by decide +kernel
theorem d_W_current_8 : decode method_13_code 8 = .ok (.lastore, 1) := by decide +kernel
theorem d_W_current_9 : decode method_13_code 9 = .ok (.goto 6, 3) := by decide +kernel
theorem d_W_current_12 : decode method_13_code 12 = .ok (.astore_n 3, 1) := by decide +kernel
theorem d_W_current_13 : decode method_13_code 13 = .ok (.iconst 1, 1) := by decide +kernel
theorem d_W_current_14 : decode method_13_code 14 = .ok (.ireturn, 1) := by decide +kernel
theorem d_W_current_15 : decode method_13_code 15 = .ok (.iconst 0, 1) := by decide +kernel
theorem d_W_current_16 : decode method_13_code 16 = .ok (.ireturn, 1) := by decide +kernel
theorem d_V_current_0 : decode prog_1_method_12_code 0 = .ok (.aload_n 0, 1) := by decide +kernel
theorem d_V_current_1 : decode prog_1_method_12_code 1 = .ok (.iload_n 1, 1) := by decide +kernel
theorem d_V_current_2 : decode prog_1_method_12_code 2 = .ok (.invokevirtual 62, 3) := by decide +kernel
theorem d_V_current_5 : decode prog_1_method_12_code 5 = .ok (.getfield 106, 3) := by decide +kernel
theorem d_V_current_8 : decode prog_1_method_12_code 8 = .ok (.ireturn, 1) := by decide +kernel
theorem d_W_about_0 : decode method_14_code 0 = .ok (.aload_n 3, 1) := by decide +kernel
theorem d_W_about_1 : decode method_14_code 1 = .ok (.iconst 0, 1) := by decide +kernel
theorem d_W_about_2 : decode method_14_code 2 = .ok (.aload_n 0, 1) := by decide +kernel
theorem d_W_about_3 : decode method_14_code 3 = .ok (.iload_n 1, 1) := by decide +kernel
theorem d_W_about_4 : decode method_14_code 4 = .ok (.iload_n 2, 1) := by decide +kernel
theorem d_W_about_5 : decode method_14_code 5 = .ok (.invokevirtual 56, 3) := by decide +kernel
theorem d_W_about_8 : decode method_14_code 8 = .ok (.i2l, 1) := by decide +kernel
theorem d_W_about_9 : decode method_14_code 9 = .ok (.lastore, 1) := by decide +kernel
theorem d_W_about_10 : decode method_14_code 10 = .ok (.goto 11, 3) := by decide +kernel
theorem d_W_about_13 : decode method_14_code 13 = .ok (.astore 4, 2) := by decide +kernel
theorem d_W_about_15 : decode method_14_code 15 = .ok (.iconst 1, 1) := by decide +kernel
theorem d_W_about_16 : decode method_14_code 16 = .ok (.ireturn, 1) := by decide +kernel
theorem d_W_about_17 : decode method_14_code 17 = .ok (.astore 4, 2) := by decide +kernel
theorem d_W_about_19 : decode method_14_code 19 = .ok (.iconst 2, 1) := by decide +kernel
theorem d_W_about_20 : decode method_14_code 20 = .ok (.ireturn, 1) := by decide +kernel
theorem d_W_about_21 : decode method_14_code 21 = .ok (.iconst 0, 1) := by decide +kernel
theorem d_W_about_22 : decode method_14_code 22 = .ok (.ireturn, 1) := by decide +kernel
theorem d_V_about_0 : decode prog_1_method_13_code 0 = .ok (.aload_n 0, 1) := by decide +kernel
theorem d_V_about_1 : decode prog_1_method_13_code 1 = .ok (.iload_n 1, 1) := by decide +kernel
theorem d_V_about_2 : decode prog_1_method_13_code 2 = .ok (.invokevirtual 66, 3) := by decide +kernel
theorem d_V_about_5 : decode prog_1_method_13_code 5 = .ok (.astore_n 3, 1) := by decide +kernel
theorem d_V_about_6 : decode prog_1_method_13_code 6 = .ok (.iload_n 2, 1) := by decide +kernel
theorem d_V_about_7 : decode prog_1_method_13_code 7 = .ok (.tableswitch 105 0 7 #[45, 50, 55, 60, 65, 78, 83, 88], 45) := by decide +kernel
theorem d_V_about_52 : decode prog_1_method_13_code 52 = .ok (.aload_n 3, 1) := by decide +kernel
theorem d_V_about_53 : decode prog_1_method_13_code 53 = .ok (.getfield 91, 3) := by decide +kernel
theorem d_V_about_56 : decode prog_1_method_13_code 56 = .ok (.ireturn, 1) := by decide +kernel
theorem d_V_about_57 : decode prog_1_method_13_code 57 = .ok (.aload_n 3, 1) := by decide +kernel
theorem d_V_about_58 : decode prog_1_method_13_code 58 = .ok (.getfield 145, 3) := by decide +kernel
theorem d_V_about_61 : decode prog_1_method_13_code 61 = .ok (.ireturn, 1) := by decide +kernel
theorem d_V_about_62 : decode prog_1_method_13_code 62 = .ok (.aload_n 3, 1) := by decide +kernel
theorem d_V_about_63 : decode prog_1_method_13_code 63 = .ok (.getfield 131, 3) := by decide +kernel
theorem d_V_about_66 : decode prog_1_method_13_code 66 = .ok (.ireturn, 1) := by decide +kernel
theorem d_V_about_67 : decode prog_1_method_13_code 67 = .ok (.aload_n 3, 1) := by decide +kernel
theorem d_V_about_68 : decode prog_1_method_13_code 68 = .ok (.invokevirtual 157, 3) := by decide +kernel
theorem d_V_about_71 : decode prog_1_method_13_code 71 = .ok (.ireturn, 1) := by decide +kernel
theorem d_V_about_72 : decode prog_1_method_13_code 72 = .ok (.aload_n 3, 1) := by decide +kernel
theorem d_V_about_73 : decode prog_1_method_13_code 73 = .ok (.getfield 161, 3) := by decide +kernel
theorem d_V_about_76 : decode prog_1_method_13_code 76 = .ok (.ifCond .eq 7, 3) := by decide +kernel
theorem d_V_about_79 : decode prog_1_method_13_code 79 = .ok (.iconst 1, 1) := by decide +kernel
theorem d_V_about_80 : decode prog_1_method_13_code 80 = .ok (.goto 4, 3) := by decide +kernel
theorem d_V_about_83 : decode prog_1_method_13_code 83 = .ok (.iconst 0, 1) := by decide +kernel
theorem d_V_about_84 : decode prog_1_method_13_code 84 = .ok (.ireturn, 1) := by decide +kernel
theorem d_V_about_85 : decode prog_1_method_13_code 85 = .ok (.aload_n 3, 1) := by decide +kernel
theorem d_V_about_86 : decode prog_1_method_13_code 86 = .ok (.getfield 97, 3) := by decide +kernel
theorem d_V_about_89 : decode prog_1_method_13_code 89 = .ok (.ireturn, 1) := by decide +kernel
theorem d_V_about_90 : decode prog_1_method_13_code 90 = .ok (.aload_n 3, 1) := by decide +kernel
theorem d_V_about_91 : decode prog_1_method_13_code 91 = .ok (.getfield 113, 3) := by decide +kernel
theorem d_V_about_94 : decode prog_1_method_13_code 94 = .ok (.ireturn, 1) := by decide +kernel
theorem d_V_about_95 : decode prog_1_method_13_code 95 = .ok (.aload_n 3, 1) := by decide +kernel
theorem d_V_about_96 : decode prog_1_method_13_code 96 = .ok (.aload_n 0, 1) := by decide +kernel
theorem d_V_about_97 : decode prog_1_method_13_code 97 = .ok (.getfield 48, 3) := by decide +kernel
theorem d_V_about_100 : decode prog_1_method_13_code 100 = .ok (.invokevirtual 164, 3) := by decide +kernel
theorem d_V_about_103 : decode prog_1_method_13_code 103 = .ok (.ifCond .eq 7, 3) := by decide +kernel
theorem d_V_about_106 : decode prog_1_method_13_code 106 = .ok (.iconst 1, 1) := by decide +kernel
theorem d_V_about_107 : decode prog_1_method_13_code 107 = .ok (.goto 4, 3) := by decide +kernel
theorem d_V_about_110 : decode prog_1_method_13_code 110 = .ok (.iconst 0, 1) := by decide +kernel
theorem d_V_about_111 : decode prog_1_method_13_code 111 = .ok (.ireturn, 1) := by decide +kernel
theorem d_V_about_112 : decode prog_1_method_13_code 112 = .ok (.new 167, 3) := by decide +kernel
theorem d_V_about_115 : decode prog_1_method_13_code 115 = .ok (.dup, 1) := by decide +kernel
theorem d_V_about_116 : decode prog_1_method_13_code 116 = .ok (.ldc 169, 2) := by decide +kernel
theorem d_V_about_118 : decode prog_1_method_13_code 118 = .ok (.invokespecial 171, 3) := by decide +kernel
theorem d_V_about_121 : decode prog_1_method_13_code 121 = .ok (.athrow, 1) := by decide +kernel
theorem d_W_entry_0 : decode method_15_code 0 = .ok (.aload_n 3, 1) := by decide +kernel
theorem d_W_entry_1 : decode method_15_code 1 = .ok (.iconst 0, 1) := by decide +kernel
theorem d_W_entry_2 : decode method_15_code 2 = .ok (.aload_n 0, 1) := by decide +kernel
theorem d_W_entry_3 : decode method_15_code 3 = .ok (.iload_n 1, 1) := by decide +kernel
theorem d_W_entry_4 : decode method_15_code 4 = .ok (.iload_n 2, 1) := by decide +kernel
theorem d_W_entry_5 : decode method_15_code 5 = .ok (.invokevirtual 59, 3) := by decide +kernel
theorem d_W_entry_8 : decode method_15_code 8 = .ok (.i2l, 1) := by decide +kernel
theorem d_W_entry_9 : decode method_15_code 9 = .ok (.lastore, 1) := by decide +kernel
theorem d_W_entry_10 : decode method_15_code 10 = .ok (.goto 11, 3) := by decide +kernel
theorem d_W_entry_13 : decode method_15_code 13 = .ok (.astore 4, 2) := by decide +kernel
theorem d_W_entry_15 : decode method_15_code 15 = .ok (.iconst 1, 1) := by decide +kernel
theorem d_W_entry_16 : decode method_15_code 16 = .ok (.ireturn, 1) := by decide +kernel
theorem d_W_entry_17 : decode method_15_code 17 = .ok (.astore 4, 2) := by decide +kernel
theorem d_W_entry_19 : decode method_15_code 19 = .ok (.iconst 2, 1) := by decide +kernel
theorem d_W_entry_20 : decode method_15_code 20 = .ok (.ireturn, 1) := by decide +kernel
theorem d_W_entry_21 : decode method_15_code 21 = .ok (.iconst 0, 1) := by decide +kernel
theorem d_W_entry_22 : decode method_15_code 22 = .ok (.ireturn, 1) := by decide +kernel
theorem d_V_entry_0 : decode prog_1_method_14_code 0 = .ok (.iload_n 2, 1) := by decide +kernel
theorem d_V_entry_1 : decode prog_1_method_14_code 1 = .ok (.iconst 0, 1) := by decide +kernel
theorem d_V_entry_2 : decode prog_1_method_14_code 2 = .ok (.iconst 3, 1) := by decide +kernel
theorem d_V_entry_3 : decode prog_1_method_14_code 3 = .ok (.invokestatic 31, 3) := by decide +kernel
theorem d_V_entry_6 : decode prog_1_method_14_code 6 = .ok (.invokestatic 35, 3) := by decide +kernel
theorem d_V_entry_9 : decode prog_1_method_14_code 9 = .ok (.aload_n 0, 1) := by decide +kernel
theorem d_V_entry_10 : decode prog_1_method_14_code 10 = .ok (.getfield 26, 3) := by decide +kernel
theorem d_V_entry_13 : decode prog_1_method_14_code 13 = .ok (.iload_n 1, 1) := by decide +kernel
theorem d_V_entry_14 : decode prog_1_method_14_code 14 = .ok (.invokevirtual 172, 3) := by decide +kernel
theorem d_V_entry_17 : decode prog_1_method_14_code 17 = .ok (.ifCond .ne 13, 3) := by decide +kernel
theorem d_V_entry_20 : decode prog_1_method_14_code 20 = .ok (.new 175, 3) := by decide +kernel
theorem d_V_entry_23 : decode prog_1_method_14_code 23 = .ok (.dup, 1) := by decide +kernel
theorem d_V_entry_24 : decode prog_1_method_14_code 24 = .ok (.ldc 177, 2) := by decide +kernel
theorem d_V_entry_26 : decode prog_1_method_14_code 26 = .ok (.invokespecial 179, 3) := by decide +kernel
theorem d_V_entry_29 : decode prog_1_method_14_code 29 = .ok (.athrow, 1) := by decide +kernel
theorem d_V_entry_30 : decode prog_1_method_14_code 30 = .ok (.aload_n 0, 1) := by decide +kernel
theorem d_V_entry_31 : decode prog_1_method_14_code 31 = .ok (.getfield 26, 3) := by decide +kernel
theorem d_V_entry_34 : decode prog_1_method_14_code 34 = .ok (.iload_n 1, 1) := by decide +kernel
theorem d_V_entry_35 : decode prog_1_method_14_code 35 = .ok (.iload_n 2, 1) := by decide +kernel
theorem d_V_entry_36 : decode prog_1_method_14_code 36 = .ok (.invokevirtual 180, 3) := by decide +kernel
theorem d_V_entry_39 : decode prog_1_method_14_code 39 = .ok (.ireturn, 1) := by decide +kernel
theorem d_G_keeps_0 : decode prog_2_method_3_code 0 = .ok (.iconst 0, 1) := by decide +kernel
theorem d_G_keeps_1 : decode prog_2_method_3_code 1 = .ok (.iload_n 1, 1) := by decide +kernel
theorem d_G_keeps_2 : decode prog_2_method_3_code 2 = .ok (.if_icmp .gt 21, 3) := by decide +kernel
theorem d_G_keeps_5 : decode prog_2_method_3_code 5 = .ok (.iload_n 1, 1) := by decide +kernel
theorem d_G_keeps_6 : decode prog_2_method_3_code 6 = .ok (.bipush 64, 2) := by decide +kernel
theorem d_G_keeps_8 : decode prog_2_method_3_code 8 = .ok (.if_icmp .ge 15, 3) := by decide +kernel
theorem d_G_keeps_11 : decode prog_2_method_3_code 11 = .ok (.iload_n 1, 1) := by decide +kernel
theorem d_G_keeps_12 : decode prog_2_method_3_code 12 = .ok (.aload_n 0, 1) := by decide +kernel
theorem d_G_keeps_13 : decode prog_2_method_3_code 13 = .ok (.getfield 19, 3) := by decide +kernel
theorem d_G_keeps_16 : decode prog_2_method_3_code 16 = .ok (.if_icmp .ge 7, 3) := by decide +kernel
theorem d_G_keeps_19 : decode prog_2_method_3_code 19 = .ok (.iconst 1, 1) := by decide +kernel
theorem d_G_keeps_20 : decode prog_2_method_3_code 20 = .ok (.goto 4, 3) := by decide +kernel
theorem d_G_keeps_23 : decode prog_2_method_3_code 23 = .ok (.iconst 0, 1) := by decide +kernel
theorem d_G_keeps_24 : decode prog_2_method_3_code 24 = .ok (.ireturn, 1) := by decide +kernel
theorem d_G_numberOf_0 : decode prog_2_method_4_code 0 = .ok (.aload_n 0, 1) := by decide +kernel
theorem d_G_numberOf_1 : decode prog_2_method_4_code 1 = .ok (.getfield 9, 3) := by decide +kernel
theorem d_G_numberOf_4 : decode prog_2_method_4_code 4 = .ok (.aload_n 0, 1) := by decide +kernel
theorem d_G_numberOf_5 : decode prog_2_method_4_code 5 = .ok (.getfield 19, 3) := by decide +kernel
theorem d_G_numberOf_8 : decode prog_2_method_4_code 8 = .ok (.iconst 1, 1) := by decide +kernel
theorem d_G_numberOf_9 : decode prog_2_method_4_code 9 = .ok (.isub, 1) := by decide +kernel
theorem d_G_numberOf_10 : decode prog_2_method_4_code 10 = .ok (.iload_n 1, 1) := by decide +kernel
theorem d_G_numberOf_11 : decode prog_2_method_4_code 11 = .ok (.isub, 1) := by decide +kernel
theorem d_G_numberOf_12 : decode prog_2_method_4_code 12 = .ok (.invokestatic 23, 3) := by decide +kernel
theorem d_G_numberOf_15 : decode prog_2_method_4_code 15 = .ok (.iload_n 2, 1) := by decide +kernel
theorem d_G_numberOf_16 : decode prog_2_method_4_code 16 = .ok (.iadd, 1) := by decide +kernel
theorem d_G_numberOf_17 : decode prog_2_method_4_code 17 = .ok (.iaload, 1) := by decide +kernel
theorem d_G_numberOf_18 : decode prog_2_method_4_code 18 = .ok (.ireturn, 1) := by decide +kernel
theorem d_W_figure_0 : decode method_16_code 0 = .ok (.aload_n 2, 1) := by decide +kernel
theorem d_W_figure_1 : decode method_16_code 1 = .ok (.iconst 0, 1) := by decide +kernel
theorem d_W_figure_2 : decode method_16_code 2 = .ok (.aload_n 0, 1) := by decide +kernel
theorem d_W_figure_3 : decode method_16_code 3 = .ok (.iload_n 1, 1) := by decide +kernel
theorem d_W_figure_4 : decode method_16_code 4 = .ok (.invokevirtual 64, 3) := by decide +kernel
theorem d_W_figure_7 : decode method_16_code 7 = .ok (.i2l, 1) := by decide +kernel
theorem d_W_figure_8 : decode method_16_code 8 = .ok (.lastore, 1) := by decide +kernel
theorem d_W_figure_9 : decode method_16_code 9 = .ok (.goto 6, 3) := by decide +kernel
theorem d_W_figure_12 : decode method_16_code 12 = .ok (.astore_n 3, 1) := by decide +kernel
theorem d_W_figure_13 : decode method_16_code 13 = .ok (.iconst 1, 1) := by decide +kernel
theorem d_W_figure_14 : decode method_16_code 14 = .ok (.ireturn, 1) := by decide +kernel
theorem d_W_figure_15 : decode method_16_code 15 = .ok (.iconst 0, 1) := by decide +kernel
theorem d_W_figure_16 : decode method_16_code 16 = .ok (.ireturn, 1) := by decide +kernel
theorem d_V_figure_0 : decode prog_1_method_16_code 0 = .ok (.iload_n 1, 1) := by decide +kernel
theorem d_V_figure_1 : decode prog_1_method_16_code 1 = .ok (.tableswitch 75 0 5 #[39, 44, 52, 57, 65, 70], 39) := by decide +kernel
theorem d_V_figure_40 : decode prog_1_method_16_code 40 = .ok (.aload_n 0, 1) := by decide +kernel
theorem d_V_figure_41 : decode prog_1_method_16_code 41 = .ok (.getfield 48, 3) := by decide +kernel
theorem d_V_figure_44 : decode prog_1_method_16_code 44 = .ok (.ireturn, 1) := by decide +kernel
theorem d_V_figure_45 : decode prog_1_method_16_code 45 = .ok (.aload_n 0, 1) := by decide +kernel
theorem d_V_figure_46 : decode prog_1_method_16_code 46 = .ok (.getfield 10, 3) := by decide +kernel
theorem d_V_figure_49 : decode prog_1_method_16_code 49 = .ok (.invokevirtual 188, 3) := by decide +kernel
theorem d_V_figure_52 : decode prog_1_method_16_code 52 = .ok (.ireturn, 1) := by decide +kernel
theorem d_V_figure_53 : decode prog_1_method_16_code 53 = .ok (.aload_n 0, 1) := by decide +kernel
theorem d_V_figure_54 : decode prog_1_method_16_code 54 = .ok (.getfield 44, 3) := by decide +kernel
theorem d_V_figure_57 : decode prog_1_method_16_code 57 = .ok (.ireturn, 1) := by decide +kernel
theorem d_V_figure_58 : decode prog_1_method_16_code 58 = .ok (.aload_n 0, 1) := by decide +kernel
theorem d_V_figure_59 : decode prog_1_method_16_code 59 = .ok (.getfield 26, 3) := by decide +kernel
theorem d_V_figure_62 : decode prog_1_method_16_code 62 = .ok (.getfield 148, 3) := by decide +kernel
theorem d_V_figure_65 : decode prog_1_method_16_code 65 = .ok (.ireturn, 1) := by decide +kernel
theorem d_V_figure_66 : decode prog_1_method_16_code 66 = .ok (.aload_n 0, 1) := by decide +kernel
theorem d_V_figure_67 : decode prog_1_method_16_code 67 = .ok (.invokevirtual 190, 3) := by decide +kernel
theorem d_V_figure_70 : decode prog_1_method_16_code 70 = .ok (.ireturn, 1) := by decide +kernel
theorem d_V_figure_71 : decode prog_1_method_16_code 71 = .ok (.aload_n 0, 1) := by decide +kernel
theorem d_V_figure_72 : decode prog_1_method_16_code 72 = .ok (.invokevirtual 193, 3) := by decide +kernel
theorem d_V_figure_75 : decode prog_1_method_16_code 75 = .ok (.ireturn, 1) := by decide +kernel
theorem d_V_figure_76 : decode prog_1_method_16_code 76 = .ok (.new 167, 3) := by decide +kernel
theorem d_V_figure_79 : decode prog_1_method_16_code 79 = .ok (.dup, 1) := by decide +kernel
theorem d_V_figure_80 : decode prog_1_method_16_code 80 = .ok (.ldc 196, 2) := by decide +kernel
theorem d_V_figure_82 : decode prog_1_method_16_code 82 = .ok (.invokespecial 171, 3) := by decide +kernel
theorem d_V_figure_85 : decode prog_1_method_16_code 85 = .ok (.athrow, 1) := by decide +kernel
theorem d_V_sumOfSizes_0 : decode prog_1_method_33_code 0 = .ok (.iconst 0, 1) := by decide +kernel
theorem d_V_sumOfSizes_1 : decode prog_1_method_33_code 1 = .ok (.istore_n 1, 1) := by decide +kernel
theorem d_V_sumOfSizes_2 : decode prog_1_method_33_code 2 = .ok (.iconst 0, 1) := by decide +kernel
theorem d_V_sumOfSizes_3 : decode prog_1_method_33_code 3 = .ok (.istore_n 2, 1) := by decide +kernel
theorem d_V_sumOfSizes_4 : decode prog_1_method_33_code 4 = .ok (.iload_n 2, 1) := by decide +kernel
theorem d_V_sumOfSizes_5 : decode prog_1_method_33_code 5 = .ok (.aload_n 0, 1) := by decide +kernel
theorem d_V_sumOfSizes_6 : decode prog_1_method_33_code 6 = .ok (.getfield 10, 3) := by decide +kernel
theorem d_V_sumOfSizes_9 : decode prog_1_method_33_code 9 = .ok (.invokevirtual 188, 3) := by decide +kernel
theorem d_V_sumOfSizes_12 : decode prog_1_method_33_code 12 = .ok (.if_icmp .ge 26, 3) := by decide +kernel
theorem d_V_sumOfSizes_15 : decode prog_1_method_33_code 15 = .ok (.iload_n 1, 1) := by decide +kernel
theorem d_V_sumOfSizes_16 : decode prog_1_method_33_code 16 = .ok (.aload_n 0, 1) := by decide +kernel
theorem d_V_sumOfSizes_17 : decode prog_1_method_33_code 17 = .ok (.getfield 10, 3) := by decide +kernel
theorem d_V_sumOfSizes_20 : decode prog_1_method_33_code 20 = .ok (.iload_n 2, 1) := by decide +kernel
theorem d_V_sumOfSizes_21 : decode prog_1_method_33_code 21 = .ok (.invokevirtual 205, 3) := by decide +kernel
theorem d_V_sumOfSizes_24 : decode prog_1_method_33_code 24 = .ok (.checkcast 42, 3) := by decide +kernel
theorem d_V_sumOfSizes_27 : decode prog_1_method_33_code 27 = .ok (.getfield 145, 3) := by decide +kernel
theorem d_V_sumOfSizes_30 : decode prog_1_method_33_code 30 = .ok (.iadd, 1) := by decide +kernel
theorem d_V_sumOfSizes_31 : decode prog_1_method_33_code 31 = .ok (.istore_n 1, 1) := by decide +kernel
theorem d_V_sumOfSizes_32 : decode prog_1_method_33_code 32 = .ok (.iinc 2 1, 3) := by decide +kernel
theorem d_V_sumOfSizes_35 : decode prog_1_method_33_code 35 = .ok (.goto (-31), 3) := by decide +kernel
theorem d_V_sumOfSizes_38 : decode prog_1_method_33_code 38 = .ok (.iload_n 1, 1) := by decide +kernel
theorem d_V_sumOfSizes_39 : decode prog_1_method_33_code 39 = .ok (.ireturn, 1) := by decide +kernel
