theorem d_V_countOfGuarded_0 : decode prog_1_method_34_code 0 = .ok (.iconst 0, 1) := by decide +kernel
theorem d_V_countOfGuarded_1 : decode prog_1_method_34_code 1 = .ok (.istore_n 1, 1) := by decide +kernel
theorem d_V_countOfGuarded_2 : decode prog_1_method_34_code 2 = .ok (.iconst 0, 1) := by decide +kernel
theorem d_V_countOfGuarded_3 : decode prog_1_method_34_code 3 = .ok (.istore_n 2, 1) := by decide +kernel
theorem d_V_countOfGuarded_4 : decode prog_1_method_34_code 4 = .ok (.iload_n 2, 1) := by decide +kernel
theorem d_V_countOfGuarded_5 : decode prog_1_method_34_code 5 = .ok (.aload_n 0, 1) := by decide +kernel
theorem d_V_countOfGuarded_6 : decode prog_1_method_34_code 6 = .ok (.getfield 10, 3) := by decide +kernel
theorem d_V_countOfGuarded_9 : decode prog_1_method_34_code 9 = .ok (.invokevirtual 188, 3) := by decide +kernel
theorem d_V_countOfGuarded_12 : decode prog_1_method_34_code 12 = .ok (.if_icmp .ge 33, 3) := by decide +kernel
theorem d_V_countOfGuarded_15 : decode prog_1_method_34_code 15 = .ok (.aload_n 0, 1) := by decide +kernel
theorem d_V_countOfGuarded_16 : decode prog_1_method_34_code 16 = .ok (.getfield 10, 3) := by decide +kernel
theorem d_V_countOfGuarded_19 : decode prog_1_method_34_code 19 = .ok (.iload_n 2, 1) := by decide +kernel
theorem d_V_countOfGuarded_20 : decode prog_1_method_34_code 20 = .ok (.invokevirtual 205, 3) := by decide +kernel
theorem d_V_countOfGuarded_23 : decode prog_1_method_34_code 23 = .ok (.checkcast 42, 3) := by decide +kernel
theorem d_V_countOfGuarded_26 : decode prog_1_method_34_code 26 = .ok (.aload_n 0, 1) := by decide +kernel
theorem d_V_countOfGuarded_27 : decode prog_1_method_34_code 27 = .ok (.getfield 48, 3) := by decide +kernel
theorem d_V_countOfGuarded_30 : decode prog_1_method_34_code 30 = .ok (.invokevirtual 164, 3) := by decide +kernel
theorem d_V_countOfGuarded_33 : decode prog_1_method_34_code 33 = .ok (.ifCond .eq 6, 3) := by decide +kernel
theorem d_V_countOfGuarded_36 : decode prog_1_method_34_code 36 = .ok (.iinc 1 1, 3) := by decide +kernel
theorem d_V_countOfGuarded_39 : decode prog_1_method_34_code 39 = .ok (.iinc 2 1, 3) := by decide +kernel
theorem d_V_countOfGuarded_42 : decode prog_1_method_34_code 42 = .ok (.goto (-38), 3) := by decide +kernel
theorem d_V_countOfGuarded_45 : decode prog_1_method_34_code 45 = .ok (.iload_n 1, 1) := by decide +kernel
theorem d_V_countOfGuarded_46 : decode prog_1_method_34_code 46 = .ok (.ireturn, 1) := by decide +kernel
theorem d_M_init_0 : decode prog_6_method_1_code 0 = .ok (.aload_n 0, 1) := by decide +kernel
theorem d_M_init_1 : decode prog_6_method_1_code 1 = .ok (.invokespecial 1, 3) := by decide +kernel
theorem d_M_init_4 : decode prog_6_method_1_code 4 = .ok (.aload_n 0, 1) := by decide +kernel
theorem d_M_init_5 : decode prog_6_method_1_code 5 = .ok (.bipush 40, 2) := by decide +kernel
theorem d_M_init_7 : decode prog_6_method_1_code 7 = .ok (.newarray .int, 2) := by decide +kernel
theorem d_M_init_9 : decode prog_6_method_1_code 9 = .ok (.putfield 7, 3) := by decide +kernel
theorem d_M_init_12 : decode prog_6_method_1_code 12 = .ok (.aload_n 0, 1) := by decide +kernel
theorem d_M_init_13 : decode prog_6_method_1_code 13 = .ok (.bipush 40, 2) := by decide +kernel
theorem d_M_init_15 : decode prog_6_method_1_code 15 = .ok (.newarray .int, 2) := by decide +kernel
theorem d_M_init_17 : decode prog_6_method_1_code 17 = .ok (.putfield 13, 3) := by decide +kernel
theorem d_M_init_20 : decode prog_6_method_1_code 20 = .ok (.aload_n 0, 1) := by decide +kernel
theorem d_M_init_21 : decode prog_6_method_1_code 21 = .ok (.bipush 40, 2) := by decide +kernel
theorem d_M_init_23 : decode prog_6_method_1_code 23 = .ok (.newarray .int, 2) := by decide +kernel
theorem d_M_init_25 : decode prog_6_method_1_code 25 = .ok (.putfield 16, 3) := by decide +kernel
theorem d_M_init_28 : decode prog_6_method_1_code 28 = .ok (.aload_n 0, 1) := by decide +kernel
theorem d_M_init_29 : decode prog_6_method_1_code 29 = .ok (.bipush 40, 2) := by decide +kernel
theorem d_M_init_31 : decode prog_6_method_1_code 31 = .ok (.newarray .int, 2) := by decide +kernel
theorem d_M_init_33 : decode prog_6_method_1_code 33 = .ok (.putfield 19, 3) := by decide +kernel
theorem d_M_init_36 : decode prog_6_method_1_code 36 = .ok (.aload_n 0, 1) := by decide +kernel
theorem d_M_init_37 : decode prog_6_method_1_code 37 = .ok (.bipush 40, 2) := by decide +kernel
theorem d_M_init_39 : decode prog_6_method_1_code 39 = .ok (.newarray .int, 2) := by decide +kernel
theorem d_M_init_41 : decode prog_6_method_1_code 41 = .ok (.putfield 22, 3) := by decide +kernel
theorem d_M_init_44 : decode prog_6_method_1_code 44 = .ok (.aload_n 0, 1) := by decide +kernel
theorem d_M_init_45 : decode prog_6_method_1_code 45 = .ok (.bipush 40, 2) := by decide +kernel
theorem d_M_init_47 : decode prog_6_method_1_code 47 = .ok (.newarray .int, 2) := by decide +kernel
theorem d_M_init_49 : decode prog_6_method_1_code 49 = .ok (.putfield 25, 3) := by decide +kernel
theorem d_M_init_52 : decode prog_6_method_1_code 52 = .ok (.aload_n 0, 1) := by decide +kernel
theorem d_M_init_53 : decode prog_6_method_1_code 53 = .ok (.bipush 40, 2) := by decide +kernel
theorem d_M_init_55 : decode prog_6_method_1_code 55 = .ok (.newarray .int, 2) := by decide +kernel
theorem d_M_init_57 : decode prog_6_method_1_code 57 = .ok (.putfield 28, 3) := by decide +kernel
theorem d_M_init_60 : decode prog_6_method_1_code 60 = .ok (.aload_n 0, 1) := by decide +kernel
theorem d_M_init_61 : decode prog_6_method_1_code 61 = .ok (.bipush 40, 2) := by decide +kernel
theorem d_M_init_63 : decode prog_6_method_1_code 63 = .ok (.newarray .int, 2) := by decide +kernel
theorem d_M_init_65 : decode prog_6_method_1_code 65 = .ok (.putfield 31, 3) := by decide +kernel
theorem d_M_init_68 : decode prog_6_method_1_code 68 = .ok (.aload_n 0, 1) := by decide +kernel
theorem d_M_init_69 : decode prog_6_method_1_code 69 = .ok (.bipush 40, 2) := by decide +kernel
theorem d_M_init_71 : decode prog_6_method_1_code 71 = .ok (.newarray .boolean, 2) := by decide +kernel
theorem d_M_init_73 : decode prog_6_method_1_code 73 = .ok (.putfield 34, 3) := by decide +kernel
theorem d_M_init_76 : decode prog_6_method_1_code 76 = .ok (.aload_n 0, 1) := by decide +kernel
theorem d_M_init_77 : decode prog_6_method_1_code 77 = .ok (.bipush 40, 2) := by decide +kernel
theorem d_M_init_79 : decode prog_6_method_1_code 79 = .ok (.newarray .int, 2) := by decide +kernel
theorem d_M_init_81 : decode prog_6_method_1_code 81 = .ok (.putfield 38, 3) := by decide +kernel
theorem d_M_init_84 : decode prog_6_method_1_code 84 = .ok (.aload_n 0, 1) := by decide +kernel
theorem d_M_init_85 : decode prog_6_method_1_code 85 = .ok (.bipush 40, 2) := by decide +kernel
theorem d_M_init_87 : decode prog_6_method_1_code 87 = .ok (.newarray .int, 2) := by decide +kernel
theorem d_M_init_89 : decode prog_6_method_1_code 89 = .ok (.putfield 41, 3) := by decide +kernel
theorem d_M_init_92 : decode prog_6_method_1_code 92 = .ok (.aload_n 0, 1) := by decide +kernel
theorem d_M_init_93 : decode prog_6_method_1_code 93 = .ok (.bipush 40, 2) := by decide +kernel
theorem d_M_init_95 : decode prog_6_method_1_code 95 = .ok (.newarray .int, 2) := by decide +kernel
theorem d_M_init_97 : decode prog_6_method_1_code 97 = .ok (.putfield 44, 3) := by decide +kernel
theorem d_M_init_100 : decode prog_6_method_1_code 100 = .ok (.aload_n 0, 1) := by decide +kernel
theorem d_M_init_101 : decode prog_6_method_1_code 101 = .ok (.bipush 6, 2) := by decide +kernel
theorem d_M_init_103 : decode prog_6_method_1_code 103 = .ok (.newarray .int, 2) := by decide +kernel
theorem d_M_init_105 : decode prog_6_method_1_code 105 = .ok (.putfield 47, 3) := by decide +kernel
theorem d_M_init_108 : decode prog_6_method_1_code 108 = .ok (.aload_n 0, 1) := by decide +kernel
theorem d_M_init_109 : decode prog_6_method_1_code 109 = .ok (.bipush 6, 2) := by decide +kernel
theorem d_M_init_111 : decode prog_6_method_1_code 111 = .ok (.newarray .int, 2) := by decide +kernel
theorem d_M_init_113 : decode prog_6_method_1_code 113 = .ok (.putfield 50, 3) := by decide +kernel
theorem d_M_init_116 : decode prog_6_method_1_code 116 = .ok (.aload_n 0, 1) := by decide +kernel
theorem d_M_init_117 : decode prog_6_method_1_code 117 = .ok (.bipush 6, 2) := by decide +kernel
theorem d_M_init_119 : decode prog_6_method_1_code 119 = .ok (.newarray .boolean, 2) := by decide +kernel
theorem d_M_init_121 : decode prog_6_method_1_code 121 = .ok (.putfield 53, 3) := by decide +kernel
theorem d_M_init_124 : decode prog_6_method_1_code 124 = .ok (.aload_n 0, 1) := by decide +kernel
theorem d_M_init_125 : decode prog_6_method_1_code 125 = .ok (.bipush 6, 2) := by decide +kernel
theorem d_M_init_127 : decode prog_6_method_1_code 127 = .ok (.newarray .int, 2) := by decide +kernel
theorem d_M_init_129 : decode prog_6_method_1_code 129 = .ok (.putfield 56, 3) := by decide +kernel
theorem d_M_init_132 : decode prog_6_method_1_code 132 = .ok (.aload_n 0, 1) := by decide +kernel
theorem d_M_init_133 : decode prog_6_method_1_code 133 = .ok (.sipush 256, 3) := by decide +kernel
theorem d_M_init_136 : decode prog_6_method_1_code 136 = .ok (.newarray .int, 2) := by decide +kernel
theorem d_M_init_138 : decode prog_6_method_1_code 138 = .ok (.putfield 59, 3) := by decide +kernel
theorem d_M_init_141 : decode prog_6_method_1_code 141 = .ok (.aload_n 0, 1) := by decide +kernel
theorem d_M_init_142 : decode prog_6_method_1_code 142 = .ok (.ldc2_w 62, 3) := by decide +kernel
theorem d_M_init_145 : decode prog_6_method_1_code 145 = .ok (.putfield 64, 3) := by decide +kernel
theorem d_M_init_148 : decode prog_6_method_1_code 148 = .ok (.return_, 1) := by decide +kernel
theorem d_M_thrown_0 : decode prog_6_method_2_code 0 = .ok (.aload_n 0, 1) := by decide +kernel
theorem d_M_thrown_1 : decode prog_6_method_2_code 1 = .ok (.getfield 68, 3) := by decide +kernel
theorem d_M_thrown_4 : decode prog_6_method_2_code 4 = .ok (.ireturn, 1) := by decide +kernel
theorem d_M_put_0 : decode prog_6_method_13_code 0 = .ok (.aload_n 0, 1) := by decide +kernel
theorem d_M_put_1 : decode prog_6_method_13_code 1 = .ok (.iload_n 2, 1) := by decide +kernel
theorem d_M_put_2 : decode prog_6_method_13_code 2 = .ok (.iconst 1, 1) := by decide +kernel
theorem d_M_put_3 : decode prog_6_method_13_code 3 = .ok (.if_icmp .lt 18, 3) := by decide +kernel
theorem d_M_put_6 : decode prog_6_method_13_code 6 = .ok (.iload_n 2, 1) := by decide +kernel
theorem d_M_put_7 : decode prog_6_method_13_code 7 = .ok (.ldc 104, 2) := by decide +kernel
theorem d_M_put_9 : decode prog_6_method_13_code 9 = .ok (.if_icmp .gt 12, 3) := by decide +kernel
theorem d_M_put_12 : decode prog_6_method_13_code 12 = .ok (.iload_n 3, 1) := by decide +kernel
theorem d_M_put_13 : decode prog_6_method_13_code 13 = .ok (.ifCond .lt 8, 3) := by decide +kernel
theorem d_M_put_16 : decode prog_6_method_13_code 16 = .ok (.iload_n 3, 1) := by decide +kernel
theorem d_M_put_17 : decode prog_6_method_13_code 17 = .ok (.iconst 3, 1) := by decide +kernel
theorem d_M_put_18 : decode prog_6_method_13_code 18 = .ok (.if_icmp .le 7, 3) := by decide +kernel
theorem d_M_put_21 : decode prog_6_method_13_code 21 = .ok (.iconst 1, 1) := by decide +kernel
theorem d_M_put_22 : decode prog_6_method_13_code 22 = .ok (.goto 17, 3) := by decide +kernel
theorem d_M_put_25 : decode prog_6_method_13_code 25 = .ok (.aload_n 0, 1) := by decide +kernel
theorem d_M_put_26 : decode prog_6_method_13_code 26 = .ok (.getfield 80, 3) := by decide +kernel
theorem d_M_put_29 : decode prog_6_method_13_code 29 = .ok (.bipush 40, 2) := by decide +kernel
theorem d_M_put_31 : decode prog_6_method_13_code 31 = .ok (.if_icmp .ne 7, 3) := by decide +kernel
theorem d_M_put_34 : decode prog_6_method_13_code 34 = .ok (.iconst 2, 1) := by decide +kernel
theorem d_M_put_35 : decode prog_6_method_13_code 35 = .ok (.goto 4, 3) := by decide +kernel
theorem d_M_put_38 : decode prog_6_method_13_code 38 = .ok (.iconst 0, 1) := by decide +kernel
theorem d_M_put_39 : decode prog_6_method_13_code 39 = .ok (.putfield 68, 3) := by decide +kernel
theorem d_M_put_42 : decode prog_6_method_13_code 42 = .ok (.aload_n 0, 1) := by decide +kernel
theorem d_M_put_43 : decode prog_6_method_13_code 43 = .ok (.getfield 68, 3) := by decide +kernel
theorem d_M_put_46 : decode prog_6_method_13_code 46 = .ok (.ifCond .le 7, 3) := by decide +kernel
theorem d_M_put_49 : decode prog_6_method_13_code 49 = .ok (.iconst 0, 1) := by decide +kernel
theorem d_M_put_50 : decode prog_6_method_13_code 50 = .ok (.goto 10, 3) := by decide +kernel
theorem d_M_put_53 : decode prog_6_method_13_code 53 = .ok (.aload_n 0, 1) := by decide +kernel
theorem d_M_put_54 : decode prog_6_method_13_code 54 = .ok (.iload_n 1, 1) := by decide +kernel
theorem d_M_put_55 : decode prog_6_method_13_code 55 = .ok (.iload_n 2, 1) := by decide +kernel
theorem d_M_put_56 : decode prog_6_method_13_code 56 = .ok (.iload_n 3, 1) := by decide +kernel
theorem d_M_put_57 : decode prog_6_method_13_code 57 = .ok (.invokevirtual 105, 3) := by decide +kernel
theorem d_M_put_60 : decode prog_6_method_13_code 60 = .ok (.ireturn, 1) := by decide +kernel
theorem d_M_add_0 : decode prog_6_method_11_code 0 = .ok (.aload_n 0, 1) := by decide +kernel
theorem d_M_add_1 : decode prog_6_method_11_code 1 = .ok (.iload_n 1, 1) := by decide +kernel
theorem d_M_add_2 : decode prog_6_method_11_code 2 = .ok (.invokevirtual 87, 3) := by decide +kernel
theorem d_M_add_5 : decode prog_6_method_11_code 5 = .ok (.istore 4, 2) := by decide +kernel
theorem d_M_add_7 : decode prog_6_method_11_code 7 = .ok (.iload 4, 2) := by decide +kernel
theorem d_M_add_9 : decode prog_6_method_11_code 9 = .ok (.ifCond .lt 14, 3) := by decide +kernel
theorem d_M_add_12 : decode prog_6_method_11_code 12 = .ok (.aload_n 0, 1) := by decide +kernel
theorem d_M_add_13 : decode prog_6_method_11_code 13 = .ok (.getfield 25, 3) := by decide +kernel
theorem d_M_add_16 : decode prog_6_method_11_code 16 = .ok (.iload 4, 2) := by decide +kernel
theorem d_M_add_18 : decode prog_6_method_11_code 18 = .ok (.aload_n 0, 1) := by decide +kernel
theorem d_M_add_19 : decode prog_6_method_11_code 19 = .ok (.getfield 75, 3) := by decide +kernel
theorem d_M_add_22 : decode prog_6_method_11_code 22 = .ok (.iastore, 1) := by decide +kernel
theorem d_M_add_23 : decode prog_6_method_11_code 23 = .ok (.aload_n 0, 1) := by decide +kernel
theorem d_M_add_24 : decode prog_6_method_11_code 24 = .ok (.getfield 7, 3) := by decide +kernel
theorem d_M_add_27 : decode prog_6_method_11_code 27 = .ok (.aload_n 0, 1) := by decide +kernel
theorem d_M_add_28 : decode prog_6_method_11_code 28 = .ok (.getfield 80, 3) := by decide +kernel
theorem d_M_add_31 : decode prog_6_method_11_code 31 = .ok (.aload_n 0, 1) := by decide +kernel
theorem d_M_add_32 : decode prog_6_method_11_code 32 = .ok (.getfield 97, 3) := by decide +kernel
theorem d_M_add_35 : decode prog_6_method_11_code 35 = .ok (.iastore, 1) := by decide +kernel
theorem d_M_add_36 : decode prog_6_method_11_code 36 = .ok (.aload_n 0, 1) := by decide +kernel
theorem d_M_add_37 : decode prog_6_method_11_code 37 = .ok (.getfield 13, 3) := by decide +kernel
theorem d_M_add_40 : decode prog_6_method_11_code 40 = .ok (.aload_n 0, 1) := by decide +kernel
theorem d_M_add_41 : decode prog_6_method_11_code 41 = .ok (.getfield 80, 3) := by decide +kernel
theorem d_M_add_44 : decode prog_6_method_11_code 44 = .ok (.iload_n 1, 1) := by decide +kernel
theorem d_M_add_45 : decode prog_6_method_11_code 45 = .ok (.iastore, 1) := by decide +kernel
theorem d_M_add_46 : decode prog_6_method_11_code 46 = .ok (.aload_n 0, 1) := by decide +kernel
theorem d_M_add_47 : decode prog_6_method_11_code 47 = .ok (.getfield 16, 3) := by decide +kernel
theorem d_M_add_50 : decode prog_6_method_11_code 50 = .ok (.aload_n 0, 1) := by decide +kernel
theorem d_M_add_51 : decode prog_6_method_11_code 51 = .ok (.getfield 80, 3) := by decide +kernel
theorem d_M_add_54 : decode prog_6_method_11_code 54 = .ok (.iload_n 2, 1) := by decide +kernel
theorem d_M_add_55 : decode prog_6_method_11_code 55 = .ok (.iastore, 1) := by decide +kernel
theorem d_M_add_56 : decode prog_6_method_11_code 56 = .ok (.aload_n 0, 1) := by decide +kernel
theorem d_M_add_57 : decode prog_6_method_11_code 57 = .ok (.getfield 19, 3) := by decide +kernel
theorem d_M_add_60 : decode prog_6_method_11_code 60 = .ok (.aload_n 0, 1) := by decide +kernel
theorem d_M_add_61 : decode prog_6_method_11_code 61 = .ok (.getfield 80, 3) := by decide +kernel
theorem d_M_add_64 : decode prog_6_method_11_code 64 = .ok (.iload_n 3, 1) := by decide +kernel
theorem d_M_add_65 : decode prog_6_method_11_code 65 = .ok (.iastore, 1) := by decide +kernel
theorem d_M_add_66 : decode prog_6_method_11_code 66 = .ok (.aload_n 0, 1) := by decide +kernel
theorem d_M_add_67 : decode prog_6_method_11_code 67 = .ok (.getfield 22, 3) := by decide +kernel
theorem d_M_add_70 : decode prog_6_method_11_code 70 = .ok (.aload_n 0, 1) := by decide +kernel
theorem d_M_add_71 : decode prog_6_method_11_code 71 = .ok (.getfield 80, 3) := by decide +kernel
theorem d_M_add_74 : decode prog_6_method_11_code 74 = .ok (.aload_n 0, 1) := by decide +kernel
theorem d_M_add_75 : decode prog_6_method_11_code 75 = .ok (.getfield 75, 3) := by decide +kernel
theorem d_M_add_78 : decode prog_6_method_11_code 78 = .ok (.iastore, 1) := by decide +kernel
theorem d_M_add_79 : decode prog_6_method_11_code 79 = .ok (.aload_n 0, 1) := by decide +kernel
theorem d_M_add_80 : decode prog_6_method_11_code 80 = .ok (.getfield 25, 3) := by decide +kernel
theorem d_M_add_83 : decode prog_6_method_11_code 83 = .ok (.aload_n 0, 1) := by decide +kernel
theorem d_M_add_84 : decode prog_6_method_11_code 84 = .ok (.getfield 80, 3) := by decide +kernel
theorem d_M_add_87 : decode prog_6_method_11_code 87 = .ok (.iconst 0, 1) := by decide +kernel
theorem d_M_add_88 : decode prog_6_method_11_code 88 = .ok (.iastore, 1) := by decide +kernel
theorem d_M_add_89 : decode prog_6_method_11_code 89 = .ok (.aload_n 0, 1) := by decide +kernel
theorem d_M_add_90 : decode prog_6_method_11_code 90 = .ok (.getfield 28, 3) := by decide +kernel
theorem d_M_add_93 : decode prog_6_method_11_code 93 = .ok (.aload_n 0, 1) := by decide +kernel
theorem d_M_add_94 : decode prog_6_method_11_code 94 = .ok (.getfield 80, 3) := by decide +kernel
theorem d_M_add_97 : decode prog_6_method_11_code 97 = .ok (.iload_n 2, 1) := by decide +kernel
theorem d_M_add_98 : decode prog_6_method_11_code 98 = .ok (.ifCond .le 7, 3) := by decide +kernel
theorem d_M_add_101 : decode prog_6_method_11_code 101 = .ok (.iconst 0, 1) := by decide +kernel
theorem d_M_add_102 : decode prog_6_method_11_code 102 = .ok (.goto 4, 3) := by decide +kernel
theorem d_M_add_105 : decode prog_6_method_11_code 105 = .ok (.iconst (-1), 1) := by decide +kernel
theorem d_M_add_106 : decode prog_6_method_11_code 106 = .ok (.iastore, 1) := by decide +kernel
theorem d_M_add_107 : decode prog_6_method_11_code 107 = .ok (.aload_n 0, 1) := by decide +kernel
theorem d_M_add_108 : decode prog_6_method_11_code 108 = .ok (.getfield 31, 3) := by decide +kernel
theorem d_M_add_111 : decode prog_6_method_11_code 111 = .ok (.aload_n 0, 1) := by decide +kernel
theorem d_M_add_112 : decode prog_6_method_11_code 112 = .ok (.getfield 80, 3) := by decide +kernel
theorem d_M_add_115 : decode prog_6_method_11_code 115 = .ok (.iconst 0, 1) := by decide +kernel
theorem d_M_add_116 : decode prog_6_method_11_code 116 = .ok (.iastore, 1) := by decide +kernel
theorem d_M_add_117 : decode prog_6_method_11_code 117 = .ok (.aload_n 0, 1) := by decide +kernel
theorem d_M_add_118 : decode prog_6_method_11_code 118 = .ok (.getfield 34, 3) := by decide +kernel
theorem d_M_add_121 : decode prog_6_method_11_code 121 = .ok (.aload_n 0, 1) := by decide +kernel
theorem d_M_add_122 : decode prog_6_method_11_code 122 = .ok (.getfield 80, 3) := by decide +kernel
theorem d_M_add_125 : decode prog_6_method_11_code 125 = .ok (.iconst 0, 1) := by decide +kernel
theorem d_M_add_126 : decode prog_6_method_11_code 126 = .ok (.bastore, 1) := by decide +kernel
theorem d_M_add_127 : decode prog_6_method_11_code 127 = .ok (.aload_n 0, 1) := by decide +kernel
theorem d_M_add_128 : decode prog_6_method_11_code 128 = .ok (.getfield 38, 3) := by decide +kernel
theorem d_M_add_131 : decode prog_6_method_11_code 131 = .ok (.aload_n 0, 1) := by decide +kernel
theorem d_M_add_132 : decode prog_6_method_11_code 132 = .ok (.getfield 80, 3) := by decide +kernel
theorem d_M_add_135 : decode prog_6_method_11_code 135 = .ok (.iconst 0, 1) := by decide +kernel
theorem d_M_add_136 : decode prog_6_method_11_code 136 = .ok (.iastore, 1) := by decide +kernel
theorem d_M_add_137 : decode prog_6_method_11_code 137 = .ok (.aload_n 0, 1) := by decide +kernel
theorem d_M_add_138 : decode prog_6_method_11_code 138 = .ok (.getfield 41, 3) := by decide +kernel
theorem d_M_add_141 : decode prog_6_method_11_code 141 = .ok (.aload_n 0, 1) := by decide +kernel
theorem d_M_add_142 : decode prog_6_method_11_code 142 = .ok (.getfield 80, 3) := by decide +kernel
theorem d_M_add_145 : decode prog_6_method_11_code 145 = .ok (.iconst 0, 1) := by decide +kernel
theorem d_M_add_146 : decode prog_6_method_11_code 146 = .ok (.iastore, 1) := by decide +kernel
theorem d_M_add_147 : decode prog_6_method_11_code 147 = .ok (.aload_n 0, 1) := by decide +kernel
theorem d_M_add_148 : decode prog_6_method_11_code 148 = .ok (.getfield 44, 3) := by decide +kernel
theorem d_M_add_151 : decode prog_6_method_11_code 151 = .ok (.aload_n 0, 1) := by decide +kernel
theorem d_M_add_152 : decode prog_6_method_11_code 152 = .ok (.getfield 80, 3) := by decide +kernel
theorem d_M_add_155 : decode prog_6_method_11_code 155 = .ok (.iconst 0, 1) := by decide +kernel
theorem d_M_add_156 : decode prog_6_method_11_code 156 = .ok (.iastore, 1) := by decide +kernel
theorem d_M_add_157 : decode prog_6_method_11_code 157 = .ok (.aload_n 0, 1) := by decide +kernel
theorem d_M_add_158 : decode prog_6_method_11_code 158 = .ok (.dup, 1) := by decide +kernel
theorem d_M_add_159 : decode prog_6_method_11_code 159 = .ok (.getfield 80, 3) := by decide +kernel
theorem d_M_add_162 : decode prog_6_method_11_code 162 = .ok (.iconst 1, 1) := by decide +kernel
theorem d_M_add_163 : decode prog_6_method_11_code 163 = .ok (.iadd, 1) := by decide +kernel
theorem d_M_add_164 : decode prog_6_method_11_code 164 = .ok (.putfield 80, 3) := by decide +kernel
theorem d_M_add_167 : decode prog_6_method_11_code 167 = .ok (.aload_n 0, 1) := by decide +kernel
theorem d_M_add_168 : decode prog_6_method_11_code 168 = .ok (.dup, 1) := by decide +kernel
theorem d_M_add_169 : decode prog_6_method_11_code 169 = .ok (.getfield 97, 3) := by decide +kernel
theorem d_M_add_172 : decode prog_6_method_11_code 172 = .ok (.iconst 1, 1) := by decide +kernel
theorem d_M_add_173 : decode prog_6_method_11_code 173 = .ok (.iadd, 1) := by decide +kernel
theorem d_M_add_174 : decode prog_6_method_11_code 174 = .ok (.putfield 97, 3) := by decide +kernel
theorem d_M_add_177 : decode prog_6_method_11_code 177 = .ok (.aload_n 0, 1) := by decide +kernel
theorem d_M_add_178 : decode prog_6_method_11_code 178 = .ok (.iload_n 2, 1) := by decide +kernel
theorem d_M_add_179 : decode prog_6_method_11_code 179 = .ok (.ifCond .le 7, 3) := by decide +kernel
theorem d_M_add_182 : decode prog_6_method_11_code 182 = .ok (.iconst 1, 1) := by decide +kernel
theorem d_M_add_183 : decode prog_6_method_11_code 183 = .ok (.goto 4, 3) := by decide +kernel
theorem d_M_add_186 : decode prog_6_method_11_code 186 = .ok (.iconst 2, 1) := by decide +kernel
theorem d_M_add_187 : decode prog_6_method_11_code 187 = .ok (.aload_n 0, 1) := by decide +kernel
theorem d_M_add_188 : decode prog_6_method_11_code 188 = .ok (.getfield 97, 3) := by decide +kernel
theorem d_M_add_191 : decode prog_6_method_11_code 191 = .ok (.iconst 1, 1) := by decide +kernel
theorem d_M_add_192 : decode prog_6_method_11_code 192 = .ok (.isub, 1) := by decide +kernel
theorem d_M_add_193 : decode prog_6_method_11_code 193 = .ok (.iload_n 1, 1) := by decide +kernel
theorem d_M_add_194 : decode prog_6_method_11_code 194 = .ok (.invokevirtual 100, 3) := by decide +kernel
theorem d_M_add_197 : decode prog_6_method_11_code 197 = .ok (.aload_n 0, 1) := by decide +kernel
theorem d_M_add_198 : decode prog_6_method_11_code 198 = .ok (.getfield 97, 3) := by decide +kernel
theorem d_M_add_201 : decode prog_6_method_11_code 201 = .ok (.iconst 1, 1) := by decide +kernel
theorem d_M_add_202 : decode prog_6_method_11_code 202 = .ok (.isub, 1) := by decide +kernel
theorem d_M_add_203 : decode prog_6_method_11_code 203 = .ok (.ireturn, 1) := by decide +kernel
theorem d_M_currentOf_0 : decode prog_6_method_6_code 0 = .ok (.iconst (-1), 1) := by decide +kernel
theorem d_M_currentOf_1 : decode prog_6_method_6_code 1 = .ok (.istore_n 2, 1) := by decide +kernel
theorem d_M_currentOf_2 : decode prog_6_method_6_code 2 = .ok (.iconst 0, 1) := by decide +kernel
theorem d_M_currentOf_3 : decode prog_6_method_6_code 3 = .ok (.istore_n 3, 1) := by decide +kernel
theorem d_M_currentOf_4 : decode prog_6_method_6_code 4 = .ok (.iload_n 3, 1) := by decide +kernel
theorem d_M_currentOf_5 : decode prog_6_method_6_code 5 = .ok (.aload_n 0, 1) := by decide +kernel
theorem d_M_currentOf_6 : decode prog_6_method_6_code 6 = .ok (.getfield 80, 3) := by decide +kernel
theorem d_M_currentOf_9 : decode prog_6_method_6_code 9 = .ok (.if_icmp .ge 25, 3) := by decide +kernel
theorem d_M_currentOf_12 : decode prog_6_method_6_code 12 = .ok (.aload_n 0, 1) := by decide +kernel
theorem d_M_currentOf_13 : decode prog_6_method_6_code 13 = .ok (.getfield 13, 3) := by decide +kernel
theorem d_M_currentOf_16 : decode prog_6_method_6_code 16 = .ok (.iload_n 3, 1) := by decide +kernel
theorem d_M_currentOf_17 : decode prog_6_method_6_code 17 = .ok (.iaload, 1) := by decide +kernel
theorem d_M_currentOf_18 : decode prog_6_method_6_code 18 = .ok (.iload_n 1, 1) := by decide +kernel
theorem d_M_currentOf_19 : decode prog_6_method_6_code 19 = .ok (.if_icmp .ne 7, 3) := by decide +kernel
theorem d_M_currentOf_22 : decode prog_6_method_6_code 22 = .ok (.iload_n 3, 1) := by decide +kernel
theorem d_M_currentOf_23 : decode prog_6_method_6_code 23 = .ok (.goto 4, 3) := by decide +kernel
theorem d_M_currentOf_26 : decode prog_6_method_6_code 26 = .ok (.iload_n 2, 1) := by decide +kernel
theorem d_M_currentOf_27 : decode prog_6_method_6_code 27 = .ok (.istore_n 2, 1) := by decide +kernel
theorem d_M_currentOf_28 : decode prog_6_method_6_code 28 = .ok (.iinc 3 1, 3) := by decide +kernel
theorem d_M_currentOf_31 : decode prog_6_method_6_code 31 = .ok (.goto (-27), 3) := by decide +kernel
theorem d_M_currentOf_34 : decode prog_6_method_6_code 34 = .ok (.iload_n 2, 1) := by decide +kernel
theorem d_M_currentOf_35 : decode prog_6_method_6_code 35 = .ok (.ireturn, 1) := by decide +kernel
theorem d_M_enter_0 : decode prog_6_method_3_code 0 = .ok (.aload_n 0, 1) := by decide +kernel
theorem d_M_enter_1 : decode prog_6_method_3_code 1 = .ok (.getfield 72, 3) := by decide +kernel
theorem d_M_enter_4 : decode prog_6_method_3_code 4 = .ok (.bipush 64, 2) := by decide +kernel
theorem d_M_enter_6 : decode prog_6_method_3_code 6 = .ok (.irem, 1) := by decide +kernel
theorem d_M_enter_7 : decode prog_6_method_3_code 7 = .ok (.iconst 4, 1) := by decide +kernel
theorem d_M_enter_8 : decode prog_6_method_3_code 8 = .ok (.imul, 1) := by decide +kernel
theorem d_M_enter_9 : decode prog_6_method_3_code 9 = .ok (.istore 4, 2) := by decide +kernel
theorem d_M_enter_11 : decode prog_6_method_3_code 11 = .ok (.aload_n 0, 1) := by decide +kernel
theorem d_M_enter_12 : decode prog_6_method_3_code 12 = .ok (.getfield 59, 3) := by decide +kernel
theorem d_M_enter_15 : decode prog_6_method_3_code 15 = .ok (.iload 4, 2) := by decide +kernel
theorem d_M_enter_17 : decode prog_6_method_3_code 17 = .ok (.aload_n 0, 1) := by decide +kernel
theorem d_M_enter_18 : decode prog_6_method_3_code 18 = .ok (.getfield 75, 3) := by decide +kernel
theorem d_M_enter_21 : decode prog_6_method_3_code 21 = .ok (.iastore, 1) := by decide +kernel
theorem d_M_enter_22 : decode prog_6_method_3_code 22 = .ok (.aload_n 0, 1) := by decide +kernel
theorem d_M_enter_23 : decode prog_6_method_3_code 23 = .ok (.getfield 59, 3) := by decide +kernel
theorem d_M_enter_26 : decode prog_6_method_3_code 26 = .ok (.iload 4, 2) := by decide +kernel
theorem d_M_enter_28 : decode prog_6_method_3_code 28 = .ok (.iconst 1, 1) := by decide +kernel
theorem d_M_enter_29 : decode prog_6_method_3_code 29 = .ok (.iadd, 1) := by decide +kernel
theorem d_M_enter_30 : decode prog_6_method_3_code 30 = .ok (.iload_n 1, 1) := by decide +kernel
theorem d_M_enter_31 : decode prog_6_method_3_code 31 = .ok (.iastore, 1) := by decide +kernel
theorem d_M_enter_32 : decode prog_6_method_3_code 32 = .ok (.aload_n 0, 1) := by decide +kernel
theorem d_M_enter_33 : decode prog_6_method_3_code 33 = .ok (.getfield 59, 3) := by decide +kernel
theorem d_M_enter_36 : decode prog_6_method_3_code 36 = .ok (.iload 4, 2) := by decide +kernel
theorem d_M_enter_38 : decode prog_6_method_3_code 38 = .ok (.iconst 2, 1) := by decide +kernel
theorem d_M_enter_39 : decode prog_6_method_3_code 39 = .ok (.iadd, 1) := by decide +kernel
theorem d_M_enter_40 : decode prog_6_method_3_code 40 = .ok (.iload_n 2, 1) := by decide +kernel
theorem d_M_enter_41 : decode prog_6_method_3_code 41 = .ok (.iastore, 1) := by decide +kernel
theorem d_M_enter_42 : decode prog_6_method_3_code 42 = .ok (.aload_n 0, 1) := by decide +kernel
theorem d_M_enter_43 : decode prog_6_method_3_code 43 = .ok (.getfield 59, 3) := by decide +kernel
theorem d_M_enter_46 : decode prog_6_method_3_code 46 = .ok (.iload 4, 2) := by decide +kernel
theorem d_M_enter_48 : decode prog_6_method_3_code 48 = .ok (.iconst 3, 1) := by decide +kernel
theorem d_M_enter_49 : decode prog_6_method_3_code 49 = .ok (.iadd, 1) := by decide +kernel
theorem d_M_enter_50 : decode prog_6_method_3_code 50 = .ok (.iload_n 3, 1) := by decide +kernel
theorem d_M_enter_51 : decode prog_6_method_3_code 51 = .ok (.iastore, 1) := by decide +kernel
theorem d_M_enter_52 : decode prog_6_method_3_code 52 = .ok (.aload_n 0, 1) := by decide +kernel
theorem d_M_enter_53 : decode prog_6_method_3_code 53 = .ok (.dup, 1) := by decide +kernel
theorem d_M_enter_54 : decode prog_6_method_3_code 54 = .ok (.getfield 72, 3) := by decide +kernel
theorem d_M_enter_57 : decode prog_6_method_3_code 57 = .ok (.iconst 1, 1) := by decide +kernel
theorem d_M_enter_58 : decode prog_6_method_3_code 58 = .ok (.iadd, 1) := by decide +kernel
theorem d_M_enter_59 : decode prog_6_method_3_code 59 = .ok (.putfield 72, 3) := by decide +kernel
theorem d_M_enter_62 : decode prog_6_method_3_code 62 = .ok (.iconst 0, 1) := by decide +kernel
theorem d_M_enter_63 : decode prog_6_method_3_code 63 = .ok (.istore 5, 2) := by decide +kernel
theorem d_M_enter_65 : decode prog_6_method_3_code 65 = .ok (.iload 5, 2) := by decide +kernel
theorem d_M_enter_67 : decode prog_6_method_3_code 67 = .ok (.iconst 4, 1) := by decide +kernel
theorem d_M_enter_68 : decode prog_6_method_3_code 68 = .ok (.if_icmp .ge 33, 3) := by decide +kernel
theorem d_M_enter_71 : decode prog_6_method_3_code 71 = .ok (.aload_n 0, 1) := by decide +kernel
theorem d_M_enter_72 : decode prog_6_method_3_code 72 = .ok (.aload_n 0, 1) := by decide +kernel
theorem d_M_enter_73 : decode prog_6_method_3_code 73 = .ok (.getfield 64, 3) := by decide +kernel
theorem d_M_enter_76 : decode prog_6_method_3_code 76 = .ok (.aload_n 0, 1) := by decide +kernel
theorem d_M_enter_77 : decode prog_6_method_3_code 77 = .ok (.getfield 59, 3) := by decide +kernel
theorem d_M_enter_80 : decode prog_6_method_3_code 80 = .ok (.iload 4, 2) := by decide +kernel
theorem d_M_enter_82 : decode prog_6_method_3_code 82 = .ok (.iload 5, 2) := by decide +kernel
theorem d_M_enter_84 : decode prog_6_method_3_code 84 = .ok (.iadd, 1) := by decide +kernel
theorem d_M_enter_85 : decode prog_6_method_3_code 85 = .ok (.iaload, 1) := by decide +kernel
theorem d_M_enter_86 : decode prog_6_method_3_code 86 = .ok (.i2l, 1) := by decide +kernel
theorem d_M_enter_87 : decode prog_6_method_3_code 87 = .ok (.lxor, 1) := by decide +kernel
theorem d_M_enter_88 : decode prog_6_method_3_code 88 = .ok (.ldc2_w 78, 3) := by decide +kernel
theorem d_M_enter_91 : decode prog_6_method_3_code 91 = .ok (.lmul, 1) := by decide +kernel
theorem d_M_enter_92 : decode prog_6_method_3_code 92 = .ok (.putfield 64, 3) := by decide +kernel
theorem d_M_enter_95 : decode prog_6_method_3_code 95 = .ok (.iinc 5 1, 3) := by decide +kernel
theorem d_M_enter_98 : decode prog_6_method_3_code 98 = .ok (.goto (-33), 3) := by decide +kernel
theorem d_M_enter_101 : decode prog_6_method_3_code 101 = .ok (.return_, 1) := by decide +kernel
theorem d_M_mark_0 : decode prog_6_method_14_code 0 = .ok (.aload_n 0, 1) := by decide +kernel
theorem d_M_mark_1 : decode prog_6_method_14_code 1 = .ok (.iload_n 1, 1) := by decide +kernel
theorem d_M_mark_2 : decode prog_6_method_14_code 2 = .ok (.invokevirtual 87, 3) := by decide +kernel
theorem d_M_mark_5 : decode prog_6_method_14_code 5 = .ok (.istore_n 2, 1) := by decide +kernel
theorem d_M_mark_6 : decode prog_6_method_14_code 6 = .ok (.aload_n 0, 1) := by decide +kernel
theorem d_M_mark_7 : decode prog_6_method_14_code 7 = .ok (.iload_n 2, 1) := by decide +kernel
theorem d_M_mark_8 : decode prog_6_method_14_code 8 = .ok (.ifCond .lt 12, 3) := by decide +kernel
theorem d_M_mark_11 : decode prog_6_method_14_code 11 = .ok (.aload_n 0, 1) := by decide +kernel
theorem d_M_mark_12 : decode prog_6_method_14_code 12 = .ok (.getfield 16, 3) := by decide +kernel
theorem d_M_mark_15 : decode prog_6_method_14_code 15 = .ok (.iload_n 2, 1) := by decide +kernel
theorem d_M_mark_16 : decode prog_6_method_14_code 16 = .ok (.iaload, 1) := by decide +kernel
theorem d_M_mark_17 : decode prog_6_method_14_code 17 = .ok (.ifCond .ne 7, 3) := by decide +kernel
theorem d_M_mark_20 : decode prog_6_method_14_code 20 = .ok (.iconst 1, 1) := by decide +kernel
theorem d_M_mark_21 : decode prog_6_method_14_code 21 = .ok (.goto 17, 3) := by decide +kernel
theorem d_M_mark_24 : decode prog_6_method_14_code 24 = .ok (.aload_n 0, 1) := by decide +kernel
theorem d_M_mark_25 : decode prog_6_method_14_code 25 = .ok (.getfield 80, 3) := by decide +kernel
theorem d_M_mark_28 : decode prog_6_method_14_code 28 = .ok (.bipush 40, 2) := by decide +kernel
theorem d_M_mark_30 : decode prog_6_method_14_code 30 = .ok (.if_icmp .ne 7, 3) := by decide +kernel
theorem d_M_mark_33 : decode prog_6_method_14_code 33 = .ok (.iconst 2, 1) := by decide +kernel
theorem d_M_mark_34 : decode prog_6_method_14_code 34 = .ok (.goto 4, 3) := by decide +kernel
theorem d_M_mark_37 : decode prog_6_method_14_code 37 = .ok (.iconst 0, 1) := by decide +kernel
theorem d_M_mark_38 : decode prog_6_method_14_code 38 = .ok (.putfield 68, 3) := by decide +kernel
theorem d_M_mark_41 : decode prog_6_method_14_code 41 = .ok (.aload_n 0, 1) := by decide +kernel
theorem d_M_mark_42 : decode prog_6_method_14_code 42 = .ok (.getfield 68, 3) := by decide +kernel
theorem d_M_mark_45 : decode prog_6_method_14_code 45 = .ok (.ifCond .le 7, 3) := by decide +kernel
theorem d_M_mark_48 : decode prog_6_method_14_code 48 = .ok (.iconst 0, 1) := by decide +kernel
theorem d_M_mark_49 : decode prog_6_method_14_code 49 = .ok (.goto 10, 3) := by decide +kernel
theorem d_M_mark_52 : decode prog_6_method_14_code 52 = .ok (.aload_n 0, 1) := by decide +kernel
theorem d_M_mark_53 : decode prog_6_method_14_code 53 = .ok (.iload_n 1, 1) := by decide +kernel
theorem d_M_mark_54 : decode prog_6_method_14_code 54 = .ok (.iconst 0, 1) := by decide +kernel
theorem d_M_mark_55 : decode prog_6_method_14_code 55 = .ok (.iconst 0, 1) := by decide +kernel
theorem d_M_mark_56 : decode prog_6_method_14_code 56 = .ok (.invokevirtual 105, 3) := by decide +kernel
theorem d_M_mark_59 : decode prog_6_method_14_code 59 = .ok (.ireturn, 1) := by decide +kernel
theorem d_M_erase_0 : decode prog_6_method_15_code 0 = .ok (.aload_n 0, 1) := by decide +kernel
theorem d_M_erase_1 : decode prog_6_method_15_code 1 = .ok (.iload_n 1, 1) := by decide +kernel
theorem d_M_erase_2 : decode prog_6_method_15_code 2 = .ok (.invokevirtual 83, 3) := by decide +kernel
theorem d_M_erase_5 : decode prog_6_method_15_code 5 = .ok (.istore_n 3, 1) := by decide +kernel
theorem d_M_erase_6 : decode prog_6_method_15_code 6 = .ok (.aload_n 0, 1) := by decide +kernel
theorem d_M_erase_7 : decode prog_6_method_15_code 7 = .ok (.iload_n 3, 1) := by decide +kernel
theorem d_M_erase_8 : decode prog_6_method_15_code 8 = .ok (.ifCond .ge 7, 3) := by decide +kernel
theorem d_M_erase_11 : decode prog_6_method_15_code 11 = .ok (.iconst 1, 1) := by decide +kernel
theorem d_M_erase_12 : decode prog_6_method_15_code 12 = .ok (.goto 38, 3) := by decide +kernel
theorem d_M_erase_15 : decode prog_6_method_15_code 15 = .ok (.aload_n 0, 1) := by decide +kernel
theorem d_M_erase_16 : decode prog_6_method_15_code 16 = .ok (.getfield 38, 3) := by decide +kernel
theorem d_M_erase_19 : decode prog_6_method_15_code 19 = .ok (.iload_n 3, 1) := by decide +kernel
theorem d_M_erase_20 : decode prog_6_method_15_code 20 = .ok (.iaload, 1) := by decide +kernel
theorem d_M_erase_21 : decode prog_6_method_15_code 21 = .ok (.ifCond .ne 24, 3) := by decide +kernel
theorem d_M_erase_24 : decode prog_6_method_15_code 24 = .ok (.aload_n 0, 1) := by decide +kernel
theorem d_M_erase_25 : decode prog_6_method_15_code 25 = .ok (.iload_n 3, 1) := by decide +kernel
theorem d_M_erase_26 : decode prog_6_method_15_code 26 = .ok (.invokevirtual 90, 3) := by decide +kernel
theorem d_M_erase_29 : decode prog_6_method_15_code 29 = .ok (.ifCond .eq 20, 3) := by decide +kernel
theorem d_M_erase_32 : decode prog_6_method_15_code 32 = .ok (.aload_n 0, 1) := by decide +kernel
theorem d_M_erase_33 : decode prog_6_method_15_code 33 = .ok (.getfield 34, 3) := by decide +kernel
theorem d_M_erase_36 : decode prog_6_method_15_code 36 = .ok (.iload_n 3, 1) := by decide +kernel
theorem d_M_erase_37 : decode prog_6_method_15_code 37 = .ok (.baload, 1) := by decide +kernel
theorem d_M_erase_38 : decode prog_6_method_15_code 38 = .ok (.ifCond .ne 7, 3) := by decide +kernel
theorem d_M_erase_41 : decode prog_6_method_15_code 41 = .ok (.iload_n 2, 1) := by decide +kernel
theorem d_M_erase_42 : decode prog_6_method_15_code 42 = .ok (.ifCond .ne 7, 3) := by decide +kernel
theorem d_M_erase_45 : decode prog_6_method_15_code 45 = .ok (.iconst 2, 1) := by decide +kernel
theorem d_M_erase_46 : decode prog_6_method_15_code 46 = .ok (.goto 4, 3) := by decide +kernel
theorem d_M_erase_49 : decode prog_6_method_15_code 49 = .ok (.iconst 0, 1) := by decide +kernel
theorem d_M_erase_50 : decode prog_6_method_15_code 50 = .ok (.putfield 68, 3) := by decide +kernel
theorem d_M_erase_53 : decode prog_6_method_15_code 53 = .ok (.aload_n 0, 1) := by decide +kernel
theorem d_M_erase_54 : decode prog_6_method_15_code 54 = .ok (.getfield 68, 3) := by decide +kernel
theorem d_M_erase_57 : decode prog_6_method_15_code 57 = .ok (.ifCond .le 5, 3) := by decide +kernel
theorem d_M_erase_60 : decode prog_6_method_15_code 60 = .ok (.iconst 0, 1) := by decide +kernel
theorem d_M_erase_61 : decode prog_6_method_15_code 61 = .ok (.ireturn, 1) := by decide +kernel
theorem d_M_erase_62 : decode prog_6_method_15_code 62 = .ok (.aload_n 0, 1) := by decide +kernel
theorem d_M_erase_63 : decode prog_6_method_15_code 63 = .ok (.getfield 13, 3) := by decide +kernel
theorem d_M_erase_66 : decode prog_6_method_15_code 66 = .ok (.iload_n 3, 1) := by decide +kernel
theorem d_M_erase_67 : decode prog_6_method_15_code 67 = .ok (.iaload, 1) := by decide +kernel
theorem d_M_erase_68 : decode prog_6_method_15_code 68 = .ok (.istore 4, 2) := by decide +kernel
theorem d_M_erase_70 : decode prog_6_method_15_code 70 = .ok (.aload_n 0, 1) := by decide +kernel
theorem d_M_erase_71 : decode prog_6_method_15_code 71 = .ok (.iload_n 3, 1) := by decide +kernel
theorem d_M_erase_72 : decode prog_6_method_15_code 72 = .ok (.invokevirtual 109, 3) := by decide +kernel
theorem d_M_erase_75 : decode prog_6_method_15_code 75 = .ok (.iload 4, 2) := by decide +kernel
theorem d_M_erase_77 : decode prog_6_method_15_code 77 = .ok (.ireturn, 1) := by decide +kernel
