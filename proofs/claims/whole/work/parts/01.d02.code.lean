theorem d_V_objectNumbered_0 : decode prog_1_method_22_code 0 = .ok (.aload_n 0, 1) := by decide +kernel
theorem d_V_objectNumbered_1 : decode prog_1_method_22_code 1 = .ok (.iload_n 1, 1) := by decide +kernel
theorem d_V_objectNumbered_2 : decode prog_1_method_22_code 2 = .ok (.invokevirtual 66, 3) := by decide +kernel
theorem d_V_objectNumbered_5 : decode prog_1_method_22_code 5 = .ok (.astore_n 2, 1) := by decide +kernel
theorem d_V_objectNumbered_6 : decode prog_1_method_22_code 6 = .ok (.aload_n 2, 1) := by decide +kernel
theorem d_V_objectNumbered_7 : decode prog_1_method_22_code 7 = .ok (.invokevirtual 214, 3) := by decide +kernel
theorem d_V_objectNumbered_10 : decode prog_1_method_22_code 10 = .ok (.ifCond .eq 13, 3) := by decide +kernel
theorem d_V_objectNumbered_13 : decode prog_1_method_22_code 13 = .ok (.new 209, 3) := by decide +kernel
theorem d_V_objectNumbered_16 : decode prog_1_method_22_code 16 = .ok (.dup, 1) := by decide +kernel
theorem d_V_objectNumbered_17 : decode prog_1_method_22_code 17 = .ok (.ldc 217, 2) := by decide +kernel
theorem d_V_objectNumbered_19 : decode prog_1_method_22_code 19 = .ok (.invokespecial 213, 3) := by decide +kernel
theorem d_V_objectNumbered_22 : decode prog_1_method_22_code 22 = .ok (.athrow, 1) := by decide +kernel
theorem d_V_objectNumbered_23 : decode prog_1_method_22_code 23 = .ok (.aload_n 2, 1) := by decide +kernel
theorem d_V_objectNumbered_24 : decode prog_1_method_22_code 24 = .ok (.areturn, 1) := by decide +kernel
theorem d_W_hold_0 : decode method_7_code 0 = .ok (.aload 4, 2) := by decide +kernel
theorem d_W_hold_2 : decode method_7_code 2 = .ok (.iconst 0, 1) := by decide +kernel
theorem d_W_hold_3 : decode method_7_code 3 = .ok (.aload_n 0, 1) := by decide +kernel
theorem d_W_hold_4 : decode method_7_code 4 = .ok (.iload_n 1, 1) := by decide +kernel
theorem d_W_hold_5 : decode method_7_code 5 = .ok (.iload_n 2, 1) := by decide +kernel
theorem d_W_hold_6 : decode method_7_code 6 = .ok (.iload_n 3, 1) := by decide +kernel
theorem d_W_hold_7 : decode method_7_code 7 = .ok (.invokevirtual 31, 3) := by decide +kernel
theorem d_W_hold_10 : decode method_7_code 10 = .ok (.ifCond .eq 7, 3) := by decide +kernel
theorem d_W_hold_13 : decode method_7_code 13 = .ok (.lconst 1, 1) := by decide +kernel
theorem d_W_hold_14 : decode method_7_code 14 = .ok (.goto 4, 3) := by decide +kernel
theorem d_W_hold_17 : decode method_7_code 17 = .ok (.lconst 0, 1) := by decide +kernel
theorem d_W_hold_18 : decode method_7_code 18 = .ok (.lastore, 1) := by decide +kernel
theorem d_W_hold_19 : decode method_7_code 19 = .ok (.goto 11, 3) := by decide +kernel
theorem d_W_hold_22 : decode method_7_code 22 = .ok (.astore 5, 2) := by decide +kernel
theorem d_W_hold_24 : decode method_7_code 24 = .ok (.iconst 1, 1) := by decide +kernel
theorem d_W_hold_25 : decode method_7_code 25 = .ok (.ireturn, 1) := by decide +kernel
theorem d_W_hold_26 : decode method_7_code 26 = .ok (.astore 5, 2) := by decide +kernel
theorem d_W_hold_28 : decode method_7_code 28 = .ok (.iconst 2, 1) := by decide +kernel
theorem d_W_hold_29 : decode method_7_code 29 = .ok (.ireturn, 1) := by decide +kernel
theorem d_W_hold_30 : decode method_7_code 30 = .ok (.iconst 0, 1) := by decide +kernel
theorem d_W_hold_31 : decode method_7_code 31 = .ok (.ireturn, 1) := by decide +kernel
theorem d_V_hold_0 : decode prog_1_method_6_code 0 = .ok (.aload_n 0, 1) := by decide +kernel
theorem d_V_hold_1 : decode prog_1_method_6_code 1 = .ok (.iload_n 1, 1) := by decide +kernel
theorem d_V_hold_2 : decode prog_1_method_6_code 2 = .ok (.invokevirtual 94, 3) := by decide +kernel
theorem d_V_hold_5 : decode prog_1_method_6_code 5 = .ok (.astore 4, 2) := by decide +kernel
theorem d_V_hold_7 : decode prog_1_method_6_code 7 = .ok (.iload_n 2, 1) := by decide +kernel
theorem d_V_hold_8 : decode prog_1_method_6_code 8 = .ok (.iconst 0, 1) := by decide +kernel
theorem d_V_hold_9 : decode prog_1_method_6_code 9 = .ok (.bipush 7, 2) := by decide +kernel
theorem d_V_hold_11 : decode prog_1_method_6_code 11 = .ok (.invokestatic 31, 3) := by decide +kernel
theorem d_V_hold_14 : decode prog_1_method_6_code 14 = .ok (.invokestatic 35, 3) := by decide +kernel
theorem d_V_hold_17 : decode prog_1_method_6_code 17 = .ok (.iconst 1, 1) := by decide +kernel
theorem d_V_hold_18 : decode prog_1_method_6_code 18 = .ok (.iload_n 2, 1) := by decide +kernel
theorem d_V_hold_19 : decode prog_1_method_6_code 19 = .ok (.ishl, 1) := by decide +kernel
theorem d_V_hold_20 : decode prog_1_method_6_code 20 = .ok (.istore 5, 2) := by decide +kernel
theorem d_V_hold_22 : decode prog_1_method_6_code 22 = .ok (.aload 4, 2) := by decide +kernel
theorem d_V_hold_24 : decode prog_1_method_6_code 24 = .ok (.getfield 113, 3) := by decide +kernel
theorem d_V_hold_27 : decode prog_1_method_6_code 27 = .ok (.iload 5, 2) := by decide +kernel
theorem d_V_hold_29 : decode prog_1_method_6_code 29 = .ok (.iand, 1) := by decide +kernel
theorem d_V_hold_30 : decode prog_1_method_6_code 30 = .ok (.ifCond .eq 7, 3) := by decide +kernel
theorem d_V_hold_33 : decode prog_1_method_6_code 33 = .ok (.iconst 1, 1) := by decide +kernel
theorem d_V_hold_34 : decode prog_1_method_6_code 34 = .ok (.goto 4, 3) := by decide +kernel
theorem d_V_hold_37 : decode prog_1_method_6_code 37 = .ok (.iconst 0, 1) := by decide +kernel
theorem d_V_hold_38 : decode prog_1_method_6_code 38 = .ok (.istore 6, 2) := by decide +kernel
theorem d_V_hold_40 : decode prog_1_method_6_code 40 = .ok (.iload 6, 2) := by decide +kernel
theorem d_V_hold_42 : decode prog_1_method_6_code 42 = .ok (.iload_n 3, 1) := by decide +kernel
theorem d_V_hold_43 : decode prog_1_method_6_code 43 = .ok (.if_icmp .ne 5, 3) := by decide +kernel
theorem d_V_hold_46 : decode prog_1_method_6_code 46 = .ok (.iconst 0, 1) := by decide +kernel
theorem d_V_hold_47 : decode prog_1_method_6_code 47 = .ok (.ireturn, 1) := by decide +kernel
theorem d_V_hold_48 : decode prog_1_method_6_code 48 = .ok (.aload 4, 2) := by decide +kernel
theorem d_V_hold_50 : decode prog_1_method_6_code 50 = .ok (.dup, 1) := by decide +kernel
theorem d_V_hold_51 : decode prog_1_method_6_code 51 = .ok (.getfield 113, 3) := by decide +kernel
theorem d_V_hold_54 : decode prog_1_method_6_code 54 = .ok (.iload 5, 2) := by decide +kernel
theorem d_V_hold_56 : decode prog_1_method_6_code 56 = .ok (.ixor, 1) := by decide +kernel
theorem d_V_hold_57 : decode prog_1_method_6_code 57 = .ok (.putfield 113, 3) := by decide +kernel
theorem d_V_hold_60 : decode prog_1_method_6_code 60 = .ok (.aload_n 0, 1) := by decide +kernel
theorem d_V_hold_61 : decode prog_1_method_6_code 61 = .ok (.getfield 26, 3) := by decide +kernel
theorem d_V_hold_64 : decode prog_1_method_6_code 64 = .ok (.aload_n 0, 1) := by decide +kernel
theorem d_V_hold_65 : decode prog_1_method_6_code 65 = .ok (.getfield 48, 3) := by decide +kernel
theorem d_V_hold_68 : decode prog_1_method_6_code 68 = .ok (.iload_n 3, 1) := by decide +kernel
theorem d_V_hold_69 : decode prog_1_method_6_code 69 = .ok (.ifCond .eq 8, 3) := by decide +kernel
theorem d_V_hold_72 : decode prog_1_method_6_code 72 = .ok (.bipush 6, 2) := by decide +kernel
theorem d_V_hold_74 : decode prog_1_method_6_code 74 = .ok (.goto 5, 3) := by decide +kernel
theorem d_V_hold_77 : decode prog_1_method_6_code 77 = .ok (.bipush 7, 2) := by decide +kernel
theorem d_V_hold_79 : decode prog_1_method_6_code 79 = .ok (.aload 4, 2) := by decide +kernel
theorem d_V_hold_81 : decode prog_1_method_6_code 81 = .ok (.getfield 106, 3) := by decide +kernel
theorem d_V_hold_84 : decode prog_1_method_6_code 84 = .ok (.iload_n 2, 1) := by decide +kernel
theorem d_V_hold_85 : decode prog_1_method_6_code 85 = .ok (.invokevirtual 109, 3) := by decide +kernel
theorem d_V_hold_88 : decode prog_1_method_6_code 88 = .ok (.iconst 1, 1) := by decide +kernel
theorem d_V_hold_89 : decode prog_1_method_6_code 89 = .ok (.ireturn, 1) := by decide +kernel
theorem d_W_rule_0 : decode method_8_code 0 = .ok (.aload_n 0, 1) := by decide +kernel
theorem d_W_rule_1 : decode method_8_code 1 = .ok (.iload_n 1, 1) := by decide +kernel
theorem d_W_rule_2 : decode method_8_code 2 = .ok (.iload_n 2, 1) := by decide +kernel
theorem d_W_rule_3 : decode method_8_code 3 = .ok (.iload_n 3, 1) := by decide +kernel
theorem d_W_rule_4 : decode method_8_code 4 = .ok (.iload 4, 2) := by decide +kernel
theorem d_W_rule_6 : decode method_8_code 6 = .ok (.iload 5, 2) := by decide +kernel
theorem d_W_rule_8 : decode method_8_code 8 = .ok (.invokevirtual 35, 3) := by decide +kernel
theorem d_W_rule_11 : decode method_8_code 11 = .ok (.goto 7, 3) := by decide +kernel
theorem d_W_rule_14 : decode method_8_code 14 = .ok (.astore 6, 2) := by decide +kernel
theorem d_W_rule_16 : decode method_8_code 16 = .ok (.iconst 1, 1) := by decide +kernel
theorem d_W_rule_17 : decode method_8_code 17 = .ok (.ireturn, 1) := by decide +kernel
theorem d_W_rule_18 : decode method_8_code 18 = .ok (.iconst 0, 1) := by decide +kernel
theorem d_W_rule_19 : decode method_8_code 19 = .ok (.ireturn, 1) := by decide +kernel
theorem d_V_rule_0 : decode prog_1_method_7_code 0 = .ok (.iload_n 1, 1) := by decide +kernel
theorem d_V_rule_1 : decode prog_1_method_7_code 1 = .ok (.iconst 0, 1) := by decide +kernel
theorem d_V_rule_2 : decode prog_1_method_7_code 2 = .ok (.iconst 5, 1) := by decide +kernel
theorem d_V_rule_3 : decode prog_1_method_7_code 3 = .ok (.invokestatic 31, 3) := by decide +kernel
theorem d_V_rule_6 : decode prog_1_method_7_code 6 = .ok (.ifCond .eq 16, 3) := by decide +kernel
theorem d_V_rule_9 : decode prog_1_method_7_code 9 = .ok (.iload_n 2, 1) := by decide +kernel
theorem d_V_rule_10 : decode prog_1_method_7_code 10 = .ok (.iconst (-1), 1) := by decide +kernel
theorem d_V_rule_11 : decode prog_1_method_7_code 11 = .ok (.iconst 3, 1) := by decide +kernel
theorem d_V_rule_12 : decode prog_1_method_7_code 12 = .ok (.invokestatic 31, 3) := by decide +kernel
theorem d_V_rule_15 : decode prog_1_method_7_code 15 = .ok (.ifCond .eq 7, 3) := by decide +kernel
theorem d_V_rule_18 : decode prog_1_method_7_code 18 = .ok (.iconst 1, 1) := by decide +kernel
theorem d_V_rule_19 : decode prog_1_method_7_code 19 = .ok (.goto 4, 3) := by decide +kernel
theorem d_V_rule_22 : decode prog_1_method_7_code 22 = .ok (.iconst 0, 1) := by decide +kernel
theorem d_V_rule_23 : decode prog_1_method_7_code 23 = .ok (.invokestatic 35, 3) := by decide +kernel
theorem d_V_rule_26 : decode prog_1_method_7_code 26 = .ok (.iload 4, 2) := by decide +kernel
theorem d_V_rule_28 : decode prog_1_method_7_code 28 = .ok (.iconst 0, 1) := by decide +kernel
theorem d_V_rule_29 : decode prog_1_method_7_code 29 = .ok (.sipush 10000, 3) := by decide +kernel
theorem d_V_rule_32 : decode prog_1_method_7_code 32 = .ok (.invokestatic 31, 3) := by decide +kernel
theorem d_V_rule_35 : decode prog_1_method_7_code 35 = .ok (.ifCond .eq 17, 3) := by decide +kernel
theorem d_V_rule_38 : decode prog_1_method_7_code 38 = .ok (.iload 5, 2) := by decide +kernel
theorem d_V_rule_40 : decode prog_1_method_7_code 40 = .ok (.iconst 1, 1) := by decide +kernel
theorem d_V_rule_41 : decode prog_1_method_7_code 41 = .ok (.iconst 4, 1) := by decide +kernel
theorem d_V_rule_42 : decode prog_1_method_7_code 42 = .ok (.invokestatic 31, 3) := by decide +kernel
theorem d_V_rule_45 : decode prog_1_method_7_code 45 = .ok (.ifCond .eq 7, 3) := by decide +kernel
theorem d_V_rule_48 : decode prog_1_method_7_code 48 = .ok (.iconst 1, 1) := by decide +kernel
theorem d_V_rule_49 : decode prog_1_method_7_code 49 = .ok (.goto 4, 3) := by decide +kernel
theorem d_V_rule_52 : decode prog_1_method_7_code 52 = .ok (.iconst 0, 1) := by decide +kernel
theorem d_V_rule_53 : decode prog_1_method_7_code 53 = .ok (.invokestatic 35, 3) := by decide +kernel
theorem d_V_rule_56 : decode prog_1_method_7_code 56 = .ok (.aload_n 0, 1) := by decide +kernel
theorem d_V_rule_57 : decode prog_1_method_7_code 57 = .ok (.getfield 18, 3) := by decide +kernel
theorem d_V_rule_60 : decode prog_1_method_7_code 60 = .ok (.iload_n 1, 1) := by decide +kernel
theorem d_V_rule_61 : decode prog_1_method_7_code 61 = .ok (.aaload, 1) := by decide +kernel
theorem d_V_rule_62 : decode prog_1_method_7_code 62 = .ok (.iload_n 2, 1) := by decide +kernel
theorem d_V_rule_63 : decode prog_1_method_7_code 63 = .ok (.iload_n 3, 1) := by decide +kernel
theorem d_V_rule_64 : decode prog_1_method_7_code 64 = .ok (.iload 4, 2) := by decide +kernel
theorem d_V_rule_66 : decode prog_1_method_7_code 66 = .ok (.iload 5, 2) := by decide +kernel
theorem d_V_rule_68 : decode prog_1_method_7_code 68 = .ok (.invokevirtual 116, 3) := by decide +kernel
theorem d_V_rule_71 : decode prog_1_method_7_code 71 = .ok (.aload_n 0, 1) := by decide +kernel
theorem d_V_rule_72 : decode prog_1_method_7_code 72 = .ok (.getfield 26, 3) := by decide +kernel
theorem d_V_rule_75 : decode prog_1_method_7_code 75 = .ok (.aload_n 0, 1) := by decide +kernel
theorem d_V_rule_76 : decode prog_1_method_7_code 76 = .ok (.getfield 48, 3) := by decide +kernel
theorem d_V_rule_79 : decode prog_1_method_7_code 79 = .ok (.bipush 9, 2) := by decide +kernel
theorem d_V_rule_81 : decode prog_1_method_7_code 81 = .ok (.iload_n 1, 1) := by decide +kernel
theorem d_V_rule_82 : decode prog_1_method_7_code 82 = .ok (.iload 5, 2) := by decide +kernel
theorem d_V_rule_84 : decode prog_1_method_7_code 84 = .ok (.invokevirtual 109, 3) := by decide +kernel
theorem d_V_rule_87 : decode prog_1_method_7_code 87 = .ok (.return_, 1) := by decide +kernel
theorem d_U_become_0 : decode prog_3_method_2_code 0 = .ok (.aload_n 0, 1) := by decide +kernel
theorem d_U_become_1 : decode prog_3_method_2_code 1 = .ok (.iload_n 1, 1) := by decide +kernel
theorem d_U_become_2 : decode prog_3_method_2_code 2 = .ok (.putfield 9, 3) := by decide +kernel
theorem d_U_become_5 : decode prog_3_method_2_code 5 = .ok (.aload_n 0, 1) := by decide +kernel
theorem d_U_become_6 : decode prog_3_method_2_code 6 = .ok (.iload_n 2, 1) := by decide +kernel
theorem d_U_become_7 : decode prog_3_method_2_code 7 = .ok (.putfield 15, 3) := by decide +kernel
theorem d_U_become_10 : decode prog_3_method_2_code 10 = .ok (.aload_n 0, 1) := by decide +kernel
theorem d_U_become_11 : decode prog_3_method_2_code 11 = .ok (.iload_n 3, 1) := by decide +kernel
theorem d_U_become_12 : decode prog_3_method_2_code 12 = .ok (.putfield 19, 3) := by decide +kernel
theorem d_U_become_15 : decode prog_3_method_2_code 15 = .ok (.aload_n 0, 1) := by decide +kernel
theorem d_U_become_16 : decode prog_3_method_2_code 16 = .ok (.iload 4, 2) := by decide +kernel
theorem d_U_become_18 : decode prog_3_method_2_code 18 = .ok (.putfield 22, 3) := by decide +kernel
theorem d_U_become_21 : decode prog_3_method_2_code 21 = .ok (.return_, 1) := by decide +kernel
theorem d_W_unrule_0 : decode method_9_code 0 = .ok (.aload_n 2, 1) := by decide +kernel
theorem d_W_unrule_1 : decode method_9_code 1 = .ok (.iconst 0, 1) := by decide +kernel
theorem d_W_unrule_2 : decode method_9_code 2 = .ok (.aload_n 0, 1) := by decide +kernel
theorem d_W_unrule_3 : decode method_9_code 3 = .ok (.iload_n 1, 1) := by decide +kernel
theorem d_W_unrule_4 : decode method_9_code 4 = .ok (.invokevirtual 39, 3) := by decide +kernel
theorem d_W_unrule_7 : decode method_9_code 7 = .ok (.ifCond .eq 7, 3) := by decide +kernel
theorem d_W_unrule_10 : decode method_9_code 10 = .ok (.lconst 1, 1) := by decide +kernel
theorem d_W_unrule_11 : decode method_9_code 11 = .ok (.goto 4, 3) := by decide +kernel
theorem d_W_unrule_14 : decode method_9_code 14 = .ok (.lconst 0, 1) := by decide +kernel
theorem d_W_unrule_15 : decode method_9_code 15 = .ok (.lastore, 1) := by decide +kernel
theorem d_W_unrule_16 : decode method_9_code 16 = .ok (.goto 6, 3) := by decide +kernel
theorem d_W_unrule_19 : decode method_9_code 19 = .ok (.astore_n 3, 1) := by decide +kernel
theorem d_W_unrule_20 : decode method_9_code 20 = .ok (.iconst 1, 1) := by decide +kernel
theorem d_W_unrule_21 : decode method_9_code 21 = .ok (.ireturn, 1) := by decide +kernel
theorem d_W_unrule_22 : decode method_9_code 22 = .ok (.iconst 0, 1) := by decide +kernel
theorem d_W_unrule_23 : decode method_9_code 23 = .ok (.ireturn, 1) := by decide +kernel
theorem d_V_unrule_0 : decode prog_1_method_8_code 0 = .ok (.iload_n 1, 1) := by decide +kernel
theorem d_V_unrule_1 : decode prog_1_method_8_code 1 = .ok (.iconst 0, 1) := by decide +kernel
theorem d_V_unrule_2 : decode prog_1_method_8_code 2 = .ok (.iconst 5, 1) := by decide +kernel
theorem d_V_unrule_3 : decode prog_1_method_8_code 3 = .ok (.invokestatic 31, 3) := by decide +kernel
theorem d_V_unrule_6 : decode prog_1_method_8_code 6 = .ok (.invokestatic 35, 3) := by decide +kernel
theorem d_V_unrule_9 : decode prog_1_method_8_code 9 = .ok (.aload_n 0, 1) := by decide +kernel
theorem d_V_unrule_10 : decode prog_1_method_8_code 10 = .ok (.getfield 18, 3) := by decide +kernel
theorem d_V_unrule_13 : decode prog_1_method_8_code 13 = .ok (.iload_n 1, 1) := by decide +kernel
theorem d_V_unrule_14 : decode prog_1_method_8_code 14 = .ok (.aaload, 1) := by decide +kernel
theorem d_V_unrule_15 : decode prog_1_method_8_code 15 = .ok (.astore_n 2, 1) := by decide +kernel
theorem d_V_unrule_16 : decode prog_1_method_8_code 16 = .ok (.aload_n 2, 1) := by decide +kernel
theorem d_V_unrule_17 : decode prog_1_method_8_code 17 = .ok (.invokevirtual 120, 3) := by decide +kernel
theorem d_V_unrule_20 : decode prog_1_method_8_code 20 = .ok (.ifCond .eq 5, 3) := by decide +kernel
theorem d_V_unrule_23 : decode prog_1_method_8_code 23 = .ok (.iconst 0, 1) := by decide +kernel
theorem d_V_unrule_24 : decode prog_1_method_8_code 24 = .ok (.ireturn, 1) := by decide +kernel
theorem d_V_unrule_25 : decode prog_1_method_8_code 25 = .ok (.aload_n 2, 1) := by decide +kernel
theorem d_V_unrule_26 : decode prog_1_method_8_code 26 = .ok (.iconst 0, 1) := by decide +kernel
theorem d_V_unrule_27 : decode prog_1_method_8_code 27 = .ok (.putfield 123, 3) := by decide +kernel
theorem d_V_unrule_30 : decode prog_1_method_8_code 30 = .ok (.aload_n 0, 1) := by decide +kernel
theorem d_V_unrule_31 : decode prog_1_method_8_code 31 = .ok (.getfield 26, 3) := by decide +kernel
theorem d_V_unrule_34 : decode prog_1_method_8_code 34 = .ok (.aload_n 0, 1) := by decide +kernel
theorem d_V_unrule_35 : decode prog_1_method_8_code 35 = .ok (.getfield 48, 3) := by decide +kernel
theorem d_V_unrule_38 : decode prog_1_method_8_code 38 = .ok (.bipush 10, 2) := by decide +kernel
theorem d_V_unrule_40 : decode prog_1_method_8_code 40 = .ok (.iload_n 1, 1) := by decide +kernel
theorem d_V_unrule_41 : decode prog_1_method_8_code 41 = .ok (.iconst 0, 1) := by decide +kernel
theorem d_V_unrule_42 : decode prog_1_method_8_code 42 = .ok (.invokevirtual 109, 3) := by decide +kernel
theorem d_V_unrule_45 : decode prog_1_method_8_code 45 = .ok (.iconst 1, 1) := by decide +kernel
theorem d_V_unrule_46 : decode prog_1_method_8_code 46 = .ok (.ireturn, 1) := by decide +kernel
theorem d_U_isEmpty_0 : decode prog_3_method_3_code 0 = .ok (.aload_n 0, 1) := by decide +kernel
theorem d_U_isEmpty_1 : decode prog_3_method_3_code 1 = .ok (.getfield 22, 3) := by decide +kernel
theorem d_U_isEmpty_4 : decode prog_3_method_3_code 4 = .ok (.ifCond .ne 7, 3) := by decide +kernel
theorem d_U_isEmpty_7 : decode prog_3_method_3_code 7 = .ok (.iconst 1, 1) := by decide +kernel
theorem d_U_isEmpty_8 : decode prog_3_method_3_code 8 = .ok (.goto 4, 3) := by decide +kernel
theorem d_U_isEmpty_11 : decode prog_3_method_3_code 11 = .ok (.iconst 0, 1) := by decide +kernel
theorem d_U_isEmpty_12 : decode prog_3_method_3_code 12 = .ok (.ireturn, 1) := by decide +kernel
theorem d_W_fetch_0 : decode method_10_code 0 = .ok (.aload_n 3, 1) := by decide +kernel
theorem d_W_fetch_1 : decode method_10_code 1 = .ok (.iconst 0, 1) := by decide +kernel
theorem d_W_fetch_2 : decode method_10_code 2 = .ok (.aload_n 0, 1) := by decide +kernel
theorem d_W_fetch_3 : decode method_10_code 3 = .ok (.iload_n 1, 1) := by decide +kernel
theorem d_W_fetch_4 : decode method_10_code 4 = .ok (.iload_n 2, 1) := by decide +kernel
theorem d_W_fetch_5 : decode method_10_code 5 = .ok (.invokevirtual 43, 3) := by decide +kernel
theorem d_W_fetch_8 : decode method_10_code 8 = .ok (.i2l, 1) := by decide +kernel
theorem d_W_fetch_9 : decode method_10_code 9 = .ok (.lastore, 1) := by decide +kernel
theorem d_W_fetch_10 : decode method_10_code 10 = .ok (.goto 15, 3) := by decide +kernel
theorem d_W_fetch_13 : decode method_10_code 13 = .ok (.astore 4, 2) := by decide +kernel
theorem d_W_fetch_15 : decode method_10_code 15 = .ok (.iconst 1, 1) := by decide +kernel
theorem d_W_fetch_16 : decode method_10_code 16 = .ok (.ireturn, 1) := by decide +kernel
theorem d_W_fetch_17 : decode method_10_code 17 = .ok (.astore 4, 2) := by decide +kernel
theorem d_W_fetch_19 : decode method_10_code 19 = .ok (.iconst 2, 1) := by decide +kernel
theorem d_W_fetch_20 : decode method_10_code 20 = .ok (.ireturn, 1) := by decide +kernel
theorem d_W_fetch_21 : decode method_10_code 21 = .ok (.astore 4, 2) := by decide +kernel
theorem d_W_fetch_23 : decode method_10_code 23 = .ok (.iconst 3, 1) := by decide +kernel
theorem d_W_fetch_24 : decode method_10_code 24 = .ok (.ireturn, 1) := by decide +kernel
theorem d_W_fetch_25 : decode method_10_code 25 = .ok (.iconst 0, 1) := by decide +kernel
theorem d_W_fetch_26 : decode method_10_code 26 = .ok (.ireturn, 1) := by decide +kernel
theorem d_V_fetch_0 : decode prog_1_method_9_code 0 = .ok (.aload_n 0, 1) := by decide +kernel
theorem d_V_fetch_1 : decode prog_1_method_9_code 1 = .ok (.iload_n 1, 1) := by decide +kernel
theorem d_V_fetch_2 : decode prog_1_method_9_code 2 = .ok (.invokevirtual 94, 3) := by decide +kernel
theorem d_V_fetch_5 : decode prog_1_method_9_code 5 = .ok (.astore_n 3, 1) := by decide +kernel
theorem d_V_fetch_6 : decode prog_1_method_9_code 6 = .ok (.iload_n 2, 1) := by decide +kernel
theorem d_V_fetch_7 : decode prog_1_method_9_code 7 = .ok (.iconst 1, 1) := by decide +kernel
theorem d_V_fetch_8 : decode prog_1_method_9_code 8 = .ok (.bipush 100, 2) := by decide +kernel
theorem d_V_fetch_10 : decode prog_1_method_9_code 10 = .ok (.invokestatic 31, 3) := by decide +kernel
theorem d_V_fetch_13 : decode prog_1_method_9_code 13 = .ok (.invokestatic 35, 3) := by decide +kernel
theorem d_V_fetch_16 : decode prog_1_method_9_code 16 = .ok (.aload_n 3, 1) := by decide +kernel
theorem d_V_fetch_17 : decode prog_1_method_9_code 17 = .ok (.invokevirtual 126, 3) := by decide +kernel
theorem d_V_fetch_20 : decode prog_1_method_9_code 20 = .ok (.ifCond .ne 13, 3) := by decide +kernel
theorem d_V_fetch_23 : decode prog_1_method_9_code 23 = .ok (.new 80, 3) := by decide +kernel
theorem d_V_fetch_26 : decode prog_1_method_9_code 26 = .ok (.dup, 1) := by decide +kernel
theorem d_V_fetch_27 : decode prog_1_method_9_code 27 = .ok (.ldc 129, 2) := by decide +kernel
theorem d_V_fetch_29 : decode prog_1_method_9_code 29 = .ok (.invokespecial 84, 3) := by decide +kernel
theorem d_V_fetch_32 : decode prog_1_method_9_code 32 = .ok (.athrow, 1) := by decide +kernel
theorem d_V_fetch_33 : decode prog_1_method_9_code 33 = .ok (.aload_n 3, 1) := by decide +kernel
theorem d_V_fetch_34 : decode prog_1_method_9_code 34 = .ok (.aload_n 0, 1) := by decide +kernel
theorem d_V_fetch_35 : decode prog_1_method_9_code 35 = .ok (.getfield 48, 3) := by decide +kernel
theorem d_V_fetch_38 : decode prog_1_method_9_code 38 = .ok (.aload_n 3, 1) := by decide +kernel
theorem d_V_fetch_39 : decode prog_1_method_9_code 39 = .ok (.getfield 131, 3) := by decide +kernel
theorem d_V_fetch_42 : decode prog_1_method_9_code 42 = .ok (.iconst 3, 1) := by decide +kernel
theorem d_V_fetch_43 : decode prog_1_method_9_code 43 = .ok (.if_icmp .ne 7, 3) := by decide +kernel
theorem d_V_fetch_46 : decode prog_1_method_9_code 46 = .ok (.iconst 3, 1) := by decide +kernel
theorem d_V_fetch_47 : decode prog_1_method_9_code 47 = .ok (.goto 4, 3) := by decide +kernel
theorem d_V_fetch_50 : decode prog_1_method_9_code 50 = .ok (.iconst 1, 1) := by decide +kernel
theorem d_V_fetch_51 : decode prog_1_method_9_code 51 = .ok (.iadd, 1) := by decide +kernel
theorem d_V_fetch_52 : decode prog_1_method_9_code 52 = .ok (.putfield 134, 3) := by decide +kernel
theorem d_V_fetch_55 : decode prog_1_method_9_code 55 = .ok (.aload_n 3, 1) := by decide +kernel
theorem d_V_fetch_56 : decode prog_1_method_9_code 56 = .ok (.aload_n 3, 1) := by decide +kernel
theorem d_V_fetch_57 : decode prog_1_method_9_code 57 = .ok (.getfield 134, 3) := by decide +kernel
theorem d_V_fetch_60 : decode prog_1_method_9_code 60 = .ok (.iload_n 2, 1) := by decide +kernel
theorem d_V_fetch_61 : decode prog_1_method_9_code 61 = .ok (.iadd, 1) := by decide +kernel
theorem d_V_fetch_62 : decode prog_1_method_9_code 62 = .ok (.putfield 137, 3) := by decide +kernel
theorem d_V_fetch_65 : decode prog_1_method_9_code 65 = .ok (.aload_n 0, 1) := by decide +kernel
theorem d_V_fetch_66 : decode prog_1_method_9_code 66 = .ok (.getfield 26, 3) := by decide +kernel
theorem d_V_fetch_69 : decode prog_1_method_9_code 69 = .ok (.aload_n 0, 1) := by decide +kernel
theorem d_V_fetch_70 : decode prog_1_method_9_code 70 = .ok (.getfield 48, 3) := by decide +kernel
theorem d_V_fetch_73 : decode prog_1_method_9_code 73 = .ok (.bipush 8, 2) := by decide +kernel
theorem d_V_fetch_75 : decode prog_1_method_9_code 75 = .ok (.aload_n 3, 1) := by decide +kernel
theorem d_V_fetch_76 : decode prog_1_method_9_code 76 = .ok (.getfield 106, 3) := by decide +kernel
theorem d_V_fetch_79 : decode prog_1_method_9_code 79 = .ok (.aload_n 3, 1) := by decide +kernel
theorem d_V_fetch_80 : decode prog_1_method_9_code 80 = .ok (.getfield 134, 3) := by decide +kernel
theorem d_V_fetch_83 : decode prog_1_method_9_code 83 = .ok (.invokevirtual 109, 3) := by decide +kernel
theorem d_V_fetch_86 : decode prog_1_method_9_code 86 = .ok (.aload_n 3, 1) := by decide +kernel
theorem d_V_fetch_87 : decode prog_1_method_9_code 87 = .ok (.getfield 134, 3) := by decide +kernel
theorem d_V_fetch_90 : decode prog_1_method_9_code 90 = .ok (.ireturn, 1) := by decide +kernel
theorem d_N_isCold_0 : decode prog_4_method_4_code 0 = .ok (.aload_n 0, 1) := by decide +kernel
theorem d_N_isCold_1 : decode prog_4_method_4_code 1 = .ok (.getfield 21, 3) := by decide +kernel
theorem d_N_isCold_4 : decode prog_4_method_4_code 4 = .ok (.iconst 2, 1) := by decide +kernel
theorem d_N_isCold_5 : decode prog_4_method_4_code 5 = .ok (.if_icmp .lt 7, 3) := by decide +kernel
theorem d_N_isCold_8 : decode prog_4_method_4_code 8 = .ok (.iconst 1, 1) := by decide +kernel
theorem d_N_isCold_9 : decode prog_4_method_4_code 9 = .ok (.goto 4, 3) := by decide +kernel
theorem d_N_isCold_12 : decode prog_4_method_4_code 12 = .ok (.iconst 0, 1) := by decide +kernel
theorem d_N_isCold_13 : decode prog_4_method_4_code 13 = .ok (.ireturn, 1) := by decide +kernel
theorem d_W_read_0 : decode method_11_code 0 = .ok (.aload_n 2, 1) := by decide +kernel
theorem d_W_read_1 : decode method_11_code 1 = .ok (.iconst 0, 1) := by decide +kernel
theorem d_W_read_2 : decode method_11_code 2 = .ok (.aload_n 0, 1) := by decide +kernel
theorem d_W_read_3 : decode method_11_code 3 = .ok (.iload_n 1, 1) := by decide +kernel
theorem d_W_read_4 : decode method_11_code 4 = .ok (.invokevirtual 47, 3) := by decide +kernel
theorem d_W_read_7 : decode method_11_code 7 = .ok (.i2l, 1) := by decide +kernel
theorem d_W_read_8 : decode method_11_code 8 = .ok (.lastore, 1) := by decide +kernel
theorem d_W_read_9 : decode method_11_code 9 = .ok (.goto 9, 3) := by decide +kernel
theorem d_W_read_12 : decode method_11_code 12 = .ok (.astore_n 3, 1) := by decide +kernel
theorem d_W_read_13 : decode method_11_code 13 = .ok (.iconst 1, 1) := by decide +kernel
theorem d_W_read_14 : decode method_11_code 14 = .ok (.ireturn, 1) := by decide +kernel
theorem d_W_read_15 : decode method_11_code 15 = .ok (.astore_n 3, 1) := by decide +kernel
theorem d_W_read_16 : decode method_11_code 16 = .ok (.iconst 2, 1) := by decide +kernel
theorem d_W_read_17 : decode method_11_code 17 = .ok (.ireturn, 1) := by decide +kernel
theorem d_W_read_18 : decode method_11_code 18 = .ok (.iconst 0, 1) := by decide +kernel
theorem d_W_read_19 : decode method_11_code 19 = .ok (.ireturn, 1) := by decide +kernel
theorem d_V_read_0 : decode prog_1_method_10_code 0 = .ok (.aload_n 0, 1) := by decide +kernel
theorem d_V_read_1 : decode prog_1_method_10_code 1 = .ok (.iload_n 1, 1) := by decide +kernel
theorem d_V_read_2 : decode prog_1_method_10_code 2 = .ok (.invokevirtual 94, 3) := by decide +kernel
theorem d_V_read_5 : decode prog_1_method_10_code 5 = .ok (.astore_n 2, 1) := by decide +kernel
theorem d_V_read_6 : decode prog_1_method_10_code 6 = .ok (.aload_n 2, 1) := by decide +kernel
theorem d_V_read_7 : decode prog_1_method_10_code 7 = .ok (.invokevirtual 126, 3) := by decide +kernel
theorem d_V_read_10 : decode prog_1_method_10_code 10 = .ok (.ifCond .eq 24, 3) := by decide +kernel
theorem d_V_read_13 : decode prog_1_method_10_code 13 = .ok (.aload_n 2, 1) := by decide +kernel
theorem d_V_read_14 : decode prog_1_method_10_code 14 = .ok (.aload_n 0, 1) := by decide +kernel
theorem d_V_read_15 : decode prog_1_method_10_code 15 = .ok (.getfield 48, 3) := by decide +kernel
theorem d_V_read_18 : decode prog_1_method_10_code 18 = .ok (.invokevirtual 140, 3) := by decide +kernel
theorem d_V_read_21 : decode prog_1_method_10_code 21 = .ok (.ifCond .ne 13, 3) := by decide +kernel
theorem d_V_read_24 : decode prog_1_method_10_code 24 = .ok (.new 80, 3) := by decide +kernel
theorem d_V_read_27 : decode prog_1_method_10_code 27 = .ok (.dup, 1) := by decide +kernel
theorem d_V_read_28 : decode prog_1_method_10_code 28 = .ok (.ldc 143, 2) := by decide +kernel
theorem d_V_read_30 : decode prog_1_method_10_code 30 = .ok (.invokespecial 84, 3) := by decide +kernel
theorem d_V_read_33 : decode prog_1_method_10_code 33 = .ok (.athrow, 1) := by decide +kernel
theorem d_V_read_34 : decode prog_1_method_10_code 34 = .ok (.aload_n 2, 1) := by decide +kernel
theorem d_V_read_35 : decode prog_1_method_10_code 35 = .ok (.getfield 145, 3) := by decide +kernel
theorem d_V_read_38 : decode prog_1_method_10_code 38 = .ok (.ireturn, 1) := by decide +kernel
theorem d_N_isFetchedFor_0 : decode prog_4_method_10_code 0 = .ok (.aload_n 0, 1) := by decide +kernel
theorem d_N_isFetchedFor_1 : decode prog_4_method_10_code 1 = .ok (.getfield 54, 3) := by decide +kernel
theorem d_N_isFetchedFor_4 : decode prog_4_method_10_code 4 = .ok (.iload_n 1, 1) := by decide +kernel
theorem d_N_isFetchedFor_5 : decode prog_4_method_10_code 5 = .ok (.if_icmp .gt 15, 3) := by decide +kernel
theorem d_N_isFetchedFor_8 : decode prog_4_method_10_code 8 = .ok (.iload_n 1, 1) := by decide +kernel
theorem d_N_isFetchedFor_9 : decode prog_4_method_10_code 9 = .ok (.aload_n 0, 1) := by decide +kernel
theorem d_N_isFetchedFor_10 : decode prog_4_method_10_code 10 = .ok (.getfield 57, 3) := by decide +kernel
theorem d_N_isFetchedFor_13 : decode prog_4_method_10_code 13 = .ok (.if_icmp .ge 7, 3) := by decide +kernel
theorem d_N_isFetchedFor_16 : decode prog_4_method_10_code 16 = .ok (.iconst 1, 1) := by decide +kernel
theorem d_N_isFetchedFor_17 : decode prog_4_method_10_code 17 = .ok (.goto 4, 3) := by decide +kernel
theorem d_N_isFetchedFor_20 : decode prog_4_method_10_code 20 = .ok (.iconst 0, 1) := by decide +kernel
theorem d_N_isFetchedFor_21 : decode prog_4_method_10_code 21 = .ok (.ireturn, 1) := by decide +kernel
theorem d_W_tick_0 : decode method_12_code 0 = .ok (.aload_n 2, 1) := by decide +kernel
theorem d_W_tick_1 : decode method_12_code 1 = .ok (.iconst 0, 1) := by decide +kernel
theorem d_W_tick_2 : decode method_12_code 2 = .ok (.aload_n 0, 1) := by decide +kernel
theorem d_W_tick_3 : decode method_12_code 3 = .ok (.iload_n 1, 1) := by decide +kernel
theorem d_W_tick_4 : decode method_12_code 4 = .ok (.invokevirtual 50, 3) := by decide +kernel
theorem d_W_tick_7 : decode method_12_code 7 = .ok (.i2l, 1) := by decide +kernel
theorem d_W_tick_8 : decode method_12_code 8 = .ok (.lastore, 1) := by decide +kernel
theorem d_W_tick_9 : decode method_12_code 9 = .ok (.goto 6, 3) := by decide +kernel
theorem d_W_tick_12 : decode method_12_code 12 = .ok (.astore_n 3, 1) := by decide +kernel
theorem d_W_tick_13 : decode method_12_code 13 = .ok (.iconst 1, 1) := by decide +kernel
theorem d_W_tick_14 : decode method_12_code 14 = .ok (.ireturn, 1) := by decide +kernel
theorem d_W_tick_15 : decode method_12_code 15 = .ok (.iconst 0, 1) := by decide +kernel
theorem d_W_tick_16 : decode method_12_code 16 = .ok (.ireturn, 1) := by decide +kernel
theorem d_V_tick_0 : decode prog_1_method_11_code 0 = .ok (.iload_n 1, 1) := by decide +kernel
theorem d_V_tick_1 : decode prog_1_method_11_code 1 = .ok (.iconst 0, 1) := by decide +kernel
theorem d_V_tick_2 : decode prog_1_method_11_code 2 = .ok (.sipush 1000, 3) := by decide +kernel
theorem d_V_tick_5 : decode prog_1_method_11_code 5 = .ok (.invokestatic 31, 3) := by decide +kernel
theorem d_V_tick_8 : decode prog_1_method_11_code 8 = .ok (.invokestatic 35, 3) := by decide +kernel
theorem d_V_tick_11 : decode prog_1_method_11_code 11 = .ok (.aload_n 0, 1) := by decide +kernel
theorem d_V_tick_12 : decode prog_1_method_11_code 12 = .ok (.getfield 26, 3) := by decide +kernel
theorem d_V_tick_15 : decode prog_1_method_11_code 15 = .ok (.getfield 148, 3) := by decide +kernel
theorem d_V_tick_18 : decode prog_1_method_11_code 18 = .ok (.istore_n 2, 1) := by decide +kernel
theorem d_V_tick_19 : decode prog_1_method_11_code 19 = .ok (.iconst 0, 1) := by decide +kernel
theorem d_V_tick_20 : decode prog_1_method_11_code 20 = .ok (.istore_n 3, 1) := by decide +kernel
theorem d_V_tick_21 : decode prog_1_method_11_code 21 = .ok (.iload_n 3, 1) := by decide +kernel
theorem d_V_tick_22 : decode prog_1_method_11_code 22 = .ok (.iload_n 1, 1) := by decide +kernel
theorem d_V_tick_23 : decode prog_1_method_11_code 23 = .ok (.if_icmp .ge 27, 3) := by decide +kernel
theorem d_V_tick_26 : decode prog_1_method_11_code 26 = .ok (.aload_n 0, 1) := by decide +kernel
theorem d_V_tick_27 : decode prog_1_method_11_code 27 = .ok (.dup, 1) := by decide +kernel
theorem d_V_tick_28 : decode prog_1_method_11_code 28 = .ok (.getfield 48, 3) := by decide +kernel
theorem d_V_tick_31 : decode prog_1_method_11_code 31 = .ok (.iconst 1, 1) := by decide +kernel
theorem d_V_tick_32 : decode prog_1_method_11_code 32 = .ok (.iadd, 1) := by decide +kernel
theorem d_V_tick_33 : decode prog_1_method_11_code 33 = .ok (.putfield 48, 3) := by decide +kernel
theorem d_V_tick_36 : decode prog_1_method_11_code 36 = .ok (.aload_n 0, 1) := by decide +kernel
theorem d_V_tick_37 : decode prog_1_method_11_code 37 = .ok (.invokevirtual 151, 3) := by decide +kernel
theorem d_V_tick_40 : decode prog_1_method_11_code 40 = .ok (.aload_n 0, 1) := by decide +kernel
theorem d_V_tick_41 : decode prog_1_method_11_code 41 = .ok (.invokevirtual 154, 3) := by decide +kernel
theorem d_V_tick_44 : decode prog_1_method_11_code 44 = .ok (.iinc 3 1, 3) := by decide +kernel
theorem d_V_tick_47 : decode prog_1_method_11_code 47 = .ok (.goto (-26), 3) := by decide +kernel
theorem d_V_tick_50 : decode prog_1_method_11_code 50 = .ok (.aload_n 0, 1) := by decide +kernel
theorem d_V_tick_51 : decode prog_1_method_11_code 51 = .ok (.getfield 26, 3) := by decide +kernel
theorem d_V_tick_54 : decode prog_1_method_11_code 54 = .ok (.getfield 148, 3) := by decide +kernel
theorem d_V_tick_57 : decode prog_1_method_11_code 57 = .ok (.iload_n 2, 1) := by decide +kernel
theorem d_V_tick_58 : decode prog_1_method_11_code 58 = .ok (.isub, 1) := by decide +kernel
theorem d_V_tick_59 : decode prog_1_method_11_code 59 = .ok (.ireturn, 1) := by decide +kernel
theorem d_V_goThroughVersions_0 : decode prog_1_method_27_code 0 = .ok (.iconst 0, 1) := by decide +kernel
theorem d_V_goThroughVersions_1 : decode prog_1_method_27_code 1 = .ok (.istore_n 1, 1) := by decide +kernel
theorem d_V_goThroughVersions_2 : decode prog_1_method_27_code 2 = .ok (.aload_n 0, 1) := by decide +kernel
theorem d_V_goThroughVersions_3 : decode prog_1_method_27_code 3 = .ok (.getfield 10, 3) := by decide +kernel
theorem d_V_goThroughVersions_6 : decode prog_1_method_27_code 6 = .ok (.invokevirtual 188, 3) := by decide +kernel
theorem d_V_goThroughVersions_9 : decode prog_1_method_27_code 9 = .ok (.istore_n 2, 1) := by decide +kernel
theorem d_V_goThroughVersions_10 : decode prog_1_method_27_code 10 = .ok (.iload_n 2, 1) := by decide +kernel
theorem d_V_goThroughVersions_11 : decode prog_1_method_27_code 11 = .ok (.ifCond .le 70, 3) := by decide +kernel
theorem d_V_goThroughVersions_14 : decode prog_1_method_27_code 14 = .ok (.iload_n 1, 1) := by decide +kernel
theorem d_V_goThroughVersions_15 : decode prog_1_method_27_code 15 = .ok (.aload_n 0, 1) := by decide +kernel
theorem d_V_goThroughVersions_16 : decode prog_1_method_27_code 16 = .ok (.getfield 10, 3) := by decide +kernel
theorem d_V_goThroughVersions_19 : decode prog_1_method_27_code 19 = .ok (.invokevirtual 188, 3) := by decide +kernel
theorem d_V_goThroughVersions_22 : decode prog_1_method_27_code 22 = .ok (.if_icmp .ge 59, 3) := by decide +kernel
theorem d_V_goThroughVersions_25 : decode prog_1_method_27_code 25 = .ok (.aload_n 0, 1) := by decide +kernel
theorem d_V_goThroughVersions_26 : decode prog_1_method_27_code 26 = .ok (.getfield 10, 3) := by decide +kernel
theorem d_V_goThroughVersions_29 : decode prog_1_method_27_code 29 = .ok (.iload_n 1, 1) := by decide +kernel
theorem d_V_goThroughVersions_30 : decode prog_1_method_27_code 30 = .ok (.invokevirtual 205, 3) := by decide +kernel
theorem d_V_goThroughVersions_33 : decode prog_1_method_27_code 33 = .ok (.checkcast 42, 3) := by decide +kernel
theorem d_V_goThroughVersions_36 : decode prog_1_method_27_code 36 = .ok (.astore_n 3, 1) := by decide +kernel
theorem d_V_goThroughVersions_37 : decode prog_1_method_27_code 37 = .ok (.aload_n 3, 1) := by decide +kernel
theorem d_V_goThroughVersions_38 : decode prog_1_method_27_code 38 = .ok (.invokevirtual 214, 3) := by decide +kernel
theorem d_V_goThroughVersions_41 : decode prog_1_method_27_code 41 = .ok (.ifCond .ne 8, 3) := by decide +kernel
theorem d_V_goThroughVersions_44 : decode prog_1_method_27_code 44 = .ok (.aload_n 0, 1) := by decide +kernel
theorem d_V_goThroughVersions_45 : decode prog_1_method_27_code 45 = .ok (.aload_n 3, 1) := by decide +kernel
theorem d_V_goThroughVersions_46 : decode prog_1_method_27_code 46 = .ok (.invokevirtual 233, 3) := by decide +kernel
theorem d_V_goThroughVersions_49 : decode prog_1_method_27_code 49 = .ok (.iload_n 1, 1) := by decide +kernel
theorem d_V_goThroughVersions_50 : decode prog_1_method_27_code 50 = .ok (.aload_n 0, 1) := by decide +kernel
theorem d_V_goThroughVersions_51 : decode prog_1_method_27_code 51 = .ok (.getfield 10, 3) := by decide +kernel
theorem d_V_goThroughVersions_54 : decode prog_1_method_27_code 54 = .ok (.invokevirtual 188, 3) := by decide +kernel
theorem d_V_goThroughVersions_57 : decode prog_1_method_27_code 57 = .ok (.if_icmp .ge 18, 3) := by decide +kernel
theorem d_V_goThroughVersions_60 : decode prog_1_method_27_code 60 = .ok (.aload_n 0, 1) := by decide +kernel
theorem d_V_goThroughVersions_61 : decode prog_1_method_27_code 61 = .ok (.getfield 10, 3) := by decide +kernel
theorem d_V_goThroughVersions_64 : decode prog_1_method_27_code 64 = .ok (.iload_n 1, 1) := by decide +kernel
theorem d_V_goThroughVersions_65 : decode prog_1_method_27_code 65 = .ok (.invokevirtual 205, 3) := by decide +kernel
theorem d_V_goThroughVersions_68 : decode prog_1_method_27_code 68 = .ok (.aload_n 3, 1) := by decide +kernel
theorem d_V_goThroughVersions_69 : decode prog_1_method_27_code 69 = .ok (.if_acmp .ne 6, 3) := by decide +kernel
theorem d_V_goThroughVersions_72 : decode prog_1_method_27_code 72 = .ok (.iinc 1 1, 3) := by decide +kernel
theorem d_V_goThroughVersions_75 : decode prog_1_method_27_code 75 = .ok (.iinc 2 (-1), 3) := by decide +kernel
theorem d_V_goThroughVersions_78 : decode prog_1_method_27_code 78 = .ok (.goto (-68), 3) := by decide +kernel
theorem d_V_goThroughVersions_81 : decode prog_1_method_27_code 81 = .ok (.return_, 1) := by decide +kernel
