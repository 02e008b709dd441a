theorem d_M_tick_0 : decode prog_6_method_24_code 0 = .ok (.aload_n 0, 1) := by decide +kernel
theorem d_M_tick_1 : decode prog_6_method_24_code 1 = .ok (.iload_n 1, 1) := by decide +kernel
theorem d_M_tick_2 : decode prog_6_method_24_code 2 = .ok (.ifCond .lt 10, 3) := by decide +kernel
theorem d_M_tick_5 : decode prog_6_method_24_code 5 = .ok (.iload_n 1, 1) := by decide +kernel
theorem d_M_tick_6 : decode prog_6_method_24_code 6 = .ok (.sipush 1000, 3) := by decide +kernel
theorem d_M_tick_9 : decode prog_6_method_24_code 9 = .ok (.if_icmp .le 7, 3) := by decide +kernel
theorem d_M_tick_12 : decode prog_6_method_24_code 12 = .ok (.iconst 1, 1) := by decide +kernel
theorem d_M_tick_13 : decode prog_6_method_24_code 13 = .ok (.goto 4, 3) := by decide +kernel
theorem d_M_tick_16 : decode prog_6_method_24_code 16 = .ok (.iconst 0, 1) := by decide +kernel
theorem d_M_tick_17 : decode prog_6_method_24_code 17 = .ok (.putfield 68, 3) := by decide +kernel
theorem d_M_tick_20 : decode prog_6_method_24_code 20 = .ok (.aload_n 0, 1) := by decide +kernel
theorem d_M_tick_21 : decode prog_6_method_24_code 21 = .ok (.getfield 72, 3) := by decide +kernel
theorem d_M_tick_24 : decode prog_6_method_24_code 24 = .ok (.istore_n 2, 1) := by decide +kernel
theorem d_M_tick_25 : decode prog_6_method_24_code 25 = .ok (.iconst 0, 1) := by decide +kernel
theorem d_M_tick_26 : decode prog_6_method_24_code 26 = .ok (.istore_n 3, 1) := by decide +kernel
theorem d_M_tick_27 : decode prog_6_method_24_code 27 = .ok (.iload_n 3, 1) := by decide +kernel
theorem d_M_tick_28 : decode prog_6_method_24_code 28 = .ok (.iload_n 1, 1) := by decide +kernel
theorem d_M_tick_29 : decode prog_6_method_24_code 29 = .ok (.if_icmp .ge 20, 3) := by decide +kernel
theorem d_M_tick_32 : decode prog_6_method_24_code 32 = .ok (.aload_n 0, 1) := by decide +kernel
theorem d_M_tick_33 : decode prog_6_method_24_code 33 = .ok (.getfield 68, 3) := by decide +kernel
theorem d_M_tick_36 : decode prog_6_method_24_code 36 = .ok (.ifCond .ne 13, 3) := by decide +kernel
theorem d_M_tick_39 : decode prog_6_method_24_code 39 = .ok (.aload_n 0, 1) := by decide +kernel
theorem d_M_tick_40 : decode prog_6_method_24_code 40 = .ok (.invokevirtual 132, 3) := by decide +kernel
theorem d_M_tick_43 : decode prog_6_method_24_code 43 = .ok (.iinc 3 1, 3) := by decide +kernel
theorem d_M_tick_46 : decode prog_6_method_24_code 46 = .ok (.goto (-19), 3) := by decide +kernel
theorem d_M_tick_49 : decode prog_6_method_24_code 49 = .ok (.aload_n 0, 1) := by decide +kernel
theorem d_M_tick_50 : decode prog_6_method_24_code 50 = .ok (.getfield 72, 3) := by decide +kernel
theorem d_M_tick_53 : decode prog_6_method_24_code 53 = .ok (.iload_n 2, 1) := by decide +kernel
theorem d_M_tick_54 : decode prog_6_method_24_code 54 = .ok (.isub, 1) := by decide +kernel
theorem d_M_tick_55 : decode prog_6_method_24_code 55 = .ok (.ireturn, 1) := by decide +kernel
theorem d_M_begin_0 : decode prog_6_method_23_code 0 = .ok (.aload_n 0, 1) := by decide +kernel
theorem d_M_begin_1 : decode prog_6_method_23_code 1 = .ok (.dup, 1) := by decide +kernel
theorem d_M_begin_2 : decode prog_6_method_23_code 2 = .ok (.getfield 75, 3) := by decide +kernel
theorem d_M_begin_5 : decode prog_6_method_23_code 5 = .ok (.iconst 1, 1) := by decide +kernel
theorem d_M_begin_6 : decode prog_6_method_23_code 6 = .ok (.iadd, 1) := by decide +kernel
theorem d_M_begin_7 : decode prog_6_method_23_code 7 = .ok (.putfield 75, 3) := by decide +kernel
theorem d_M_begin_10 : decode prog_6_method_23_code 10 = .ok (.aload_n 0, 1) := by decide +kernel
theorem d_M_begin_11 : decode prog_6_method_23_code 11 = .ok (.getfield 97, 3) := by decide +kernel
theorem d_M_begin_14 : decode prog_6_method_23_code 14 = .ok (.istore_n 1, 1) := by decide +kernel
theorem d_M_begin_15 : decode prog_6_method_23_code 15 = .ok (.iconst 0, 1) := by decide +kernel
theorem d_M_begin_16 : decode prog_6_method_23_code 16 = .ok (.istore_n 2, 1) := by decide +kernel
theorem d_M_begin_17 : decode prog_6_method_23_code 17 = .ok (.iload_n 2, 1) := by decide +kernel
theorem d_M_begin_18 : decode prog_6_method_23_code 18 = .ok (.aload_n 0, 1) := by decide +kernel
theorem d_M_begin_19 : decode prog_6_method_23_code 19 = .ok (.getfield 80, 3) := by decide +kernel
theorem d_M_begin_22 : decode prog_6_method_23_code 22 = .ok (.if_icmp .ge 63, 3) := by decide +kernel
theorem d_M_begin_25 : decode prog_6_method_23_code 25 = .ok (.aload_n 0, 1) := by decide +kernel
theorem d_M_begin_26 : decode prog_6_method_23_code 26 = .ok (.getfield 7, 3) := by decide +kernel
theorem d_M_begin_29 : decode prog_6_method_23_code 29 = .ok (.iload_n 2, 1) := by decide +kernel
theorem d_M_begin_30 : decode prog_6_method_23_code 30 = .ok (.iaload, 1) := by decide +kernel
theorem d_M_begin_31 : decode prog_6_method_23_code 31 = .ok (.iload_n 1, 1) := by decide +kernel
theorem d_M_begin_32 : decode prog_6_method_23_code 32 = .ok (.if_icmp .ge 53, 3) := by decide +kernel
theorem d_M_begin_35 : decode prog_6_method_23_code 35 = .ok (.aload_n 0, 1) := by decide +kernel
theorem d_M_begin_36 : decode prog_6_method_23_code 36 = .ok (.getfield 7, 3) := by decide +kernel
theorem d_M_begin_39 : decode prog_6_method_23_code 39 = .ok (.iload_n 2, 1) := by decide +kernel
theorem d_M_begin_40 : decode prog_6_method_23_code 40 = .ok (.iaload, 1) := by decide +kernel
theorem d_M_begin_41 : decode prog_6_method_23_code 41 = .ok (.istore_n 3, 1) := by decide +kernel
theorem d_M_begin_42 : decode prog_6_method_23_code 42 = .ok (.aload_n 0, 1) := by decide +kernel
theorem d_M_begin_43 : decode prog_6_method_23_code 43 = .ok (.getfield 16, 3) := by decide +kernel
theorem d_M_begin_46 : decode prog_6_method_23_code 46 = .ok (.iload_n 2, 1) := by decide +kernel
theorem d_M_begin_47 : decode prog_6_method_23_code 47 = .ok (.iaload, 1) := by decide +kernel
theorem d_M_begin_48 : decode prog_6_method_23_code 48 = .ok (.ifCond .le 8, 3) := by decide +kernel
theorem d_M_begin_51 : decode prog_6_method_23_code 51 = .ok (.aload_n 0, 1) := by decide +kernel
theorem d_M_begin_52 : decode prog_6_method_23_code 52 = .ok (.iload_n 2, 1) := by decide +kernel
theorem d_M_begin_53 : decode prog_6_method_23_code 53 = .ok (.invokevirtual 126, 3) := by decide +kernel
theorem d_M_begin_56 : decode prog_6_method_23_code 56 = .ok (.iload_n 2, 1) := by decide +kernel
theorem d_M_begin_57 : decode prog_6_method_23_code 57 = .ok (.iload_n 2, 1) := by decide +kernel
theorem d_M_begin_58 : decode prog_6_method_23_code 58 = .ok (.aload_n 0, 1) := by decide +kernel
theorem d_M_begin_59 : decode prog_6_method_23_code 59 = .ok (.getfield 80, 3) := by decide +kernel
theorem d_M_begin_62 : decode prog_6_method_23_code 62 = .ok (.if_icmp .ge 17, 3) := by decide +kernel
theorem d_M_begin_65 : decode prog_6_method_23_code 65 = .ok (.aload_n 0, 1) := by decide +kernel
theorem d_M_begin_66 : decode prog_6_method_23_code 66 = .ok (.getfield 7, 3) := by decide +kernel
theorem d_M_begin_69 : decode prog_6_method_23_code 69 = .ok (.iload_n 2, 1) := by decide +kernel
theorem d_M_begin_70 : decode prog_6_method_23_code 70 = .ok (.iaload, 1) := by decide +kernel
theorem d_M_begin_71 : decode prog_6_method_23_code 71 = .ok (.iload_n 3, 1) := by decide +kernel
theorem d_M_begin_72 : decode prog_6_method_23_code 72 = .ok (.if_icmp .ne 7, 3) := by decide +kernel
theorem d_M_begin_75 : decode prog_6_method_23_code 75 = .ok (.iconst 1, 1) := by decide +kernel
theorem d_M_begin_76 : decode prog_6_method_23_code 76 = .ok (.goto 4, 3) := by decide +kernel
theorem d_M_begin_79 : decode prog_6_method_23_code 79 = .ok (.iconst 0, 1) := by decide +kernel
theorem d_M_begin_80 : decode prog_6_method_23_code 80 = .ok (.iadd, 1) := by decide +kernel
theorem d_M_begin_81 : decode prog_6_method_23_code 81 = .ok (.istore_n 2, 1) := by decide +kernel
theorem d_M_begin_82 : decode prog_6_method_23_code 82 = .ok (.goto (-65), 3) := by decide +kernel
theorem d_M_begin_85 : decode prog_6_method_23_code 85 = .ok (.iconst 0, 1) := by decide +kernel
theorem d_M_begin_86 : decode prog_6_method_23_code 86 = .ok (.istore_n 2, 1) := by decide +kernel
theorem d_M_begin_87 : decode prog_6_method_23_code 87 = .ok (.iload_n 2, 1) := by decide +kernel
theorem d_M_begin_88 : decode prog_6_method_23_code 88 = .ok (.aload_n 0, 1) := by decide +kernel
theorem d_M_begin_89 : decode prog_6_method_23_code 89 = .ok (.getfield 80, 3) := by decide +kernel
theorem d_M_begin_92 : decode prog_6_method_23_code 92 = .ok (.if_icmp .ge 40, 3) := by decide +kernel
theorem d_M_begin_95 : decode prog_6_method_23_code 95 = .ok (.aload_n 0, 1) := by decide +kernel
theorem d_M_begin_96 : decode prog_6_method_23_code 96 = .ok (.getfield 16, 3) := by decide +kernel
theorem d_M_begin_99 : decode prog_6_method_23_code 99 = .ok (.iload_n 2, 1) := by decide +kernel
theorem d_M_begin_100 : decode prog_6_method_23_code 100 = .ok (.iaload, 1) := by decide +kernel
theorem d_M_begin_101 : decode prog_6_method_23_code 101 = .ok (.ifCond .ne 25, 3) := by decide +kernel
theorem d_M_begin_104 : decode prog_6_method_23_code 104 = .ok (.aload_n 0, 1) := by decide +kernel
theorem d_M_begin_105 : decode prog_6_method_23_code 105 = .ok (.aload_n 0, 1) := by decide +kernel
theorem d_M_begin_106 : decode prog_6_method_23_code 106 = .ok (.getfield 13, 3) := by decide +kernel
theorem d_M_begin_109 : decode prog_6_method_23_code 109 = .ok (.iload_n 2, 1) := by decide +kernel
theorem d_M_begin_110 : decode prog_6_method_23_code 110 = .ok (.iaload, 1) := by decide +kernel
theorem d_M_begin_111 : decode prog_6_method_23_code 111 = .ok (.invokevirtual 129, 3) := by decide +kernel
theorem d_M_begin_114 : decode prog_6_method_23_code 114 = .ok (.iconst 1, 1) := by decide +kernel
theorem d_M_begin_115 : decode prog_6_method_23_code 115 = .ok (.if_icmp .ne 11, 3) := by decide +kernel
theorem d_M_begin_118 : decode prog_6_method_23_code 118 = .ok (.aload_n 0, 1) := by decide +kernel
theorem d_M_begin_119 : decode prog_6_method_23_code 119 = .ok (.iload_n 2, 1) := by decide +kernel
theorem d_M_begin_120 : decode prog_6_method_23_code 120 = .ok (.invokevirtual 109, 3) := by decide +kernel
theorem d_M_begin_123 : decode prog_6_method_23_code 123 = .ok (.goto (-36), 3) := by decide +kernel
theorem d_M_begin_126 : decode prog_6_method_23_code 126 = .ok (.iinc 2 1, 3) := by decide +kernel
theorem d_M_begin_129 : decode prog_6_method_23_code 129 = .ok (.goto (-42), 3) := by decide +kernel
theorem d_M_begin_132 : decode prog_6_method_23_code 132 = .ok (.return_, 1) := by decide +kernel
theorem d_M_go_0 : decode prog_6_method_21_code 0 = .ok (.iconst 1, 1) := by decide +kernel
theorem d_M_go_1 : decode prog_6_method_21_code 1 = .ok (.istore_n 2, 1) := by decide +kernel
theorem d_M_go_2 : decode prog_6_method_21_code 2 = .ok (.iconst 0, 1) := by decide +kernel
theorem d_M_go_3 : decode prog_6_method_21_code 3 = .ok (.istore_n 3, 1) := by decide +kernel
theorem d_M_go_4 : decode prog_6_method_21_code 4 = .ok (.iload_n 3, 1) := by decide +kernel
theorem d_M_go_5 : decode prog_6_method_21_code 5 = .ok (.bipush 6, 2) := by decide +kernel
theorem d_M_go_7 : decode prog_6_method_21_code 7 = .ok (.if_icmp .ge 132, 3) := by decide +kernel
theorem d_M_go_10 : decode prog_6_method_21_code 10 = .ok (.iload_n 2, 1) := by decide +kernel
theorem d_M_go_11 : decode prog_6_method_21_code 11 = .ok (.ifCond .eq 128, 3) := by decide +kernel
theorem d_M_go_14 : decode prog_6_method_21_code 14 = .ok (.aload_n 0, 1) := by decide +kernel
theorem d_M_go_15 : decode prog_6_method_21_code 15 = .ok (.iload_n 3, 1) := by decide +kernel
theorem d_M_go_16 : decode prog_6_method_21_code 16 = .ok (.iload_n 1, 1) := by decide +kernel
theorem d_M_go_17 : decode prog_6_method_21_code 17 = .ok (.invokevirtual 119, 3) := by decide +kernel
theorem d_M_go_20 : decode prog_6_method_21_code 20 = .ok (.ifCond .ne 6, 3) := by decide +kernel
theorem d_M_go_23 : decode prog_6_method_21_code 23 = .ok (.goto 110, 3) := by decide +kernel
theorem d_M_go_26 : decode prog_6_method_21_code 26 = .ok (.aload_n 0, 1) := by decide +kernel
theorem d_M_go_27 : decode prog_6_method_21_code 27 = .ok (.getfield 47, 3) := by decide +kernel
theorem d_M_go_30 : decode prog_6_method_21_code 30 = .ok (.iload_n 3, 1) := by decide +kernel
theorem d_M_go_31 : decode prog_6_method_21_code 31 = .ok (.iaload, 1) := by decide +kernel
theorem d_M_go_32 : decode prog_6_method_21_code 32 = .ok (.iconst 4, 1) := by decide +kernel
theorem d_M_go_33 : decode prog_6_method_21_code 33 = .ok (.if_icmp .ge 50, 3) := by decide +kernel
theorem d_M_go_36 : decode prog_6_method_21_code 36 = .ok (.aload_n 0, 1) := by decide +kernel
theorem d_M_go_37 : decode prog_6_method_21_code 37 = .ok (.getfield 47, 3) := by decide +kernel
theorem d_M_go_40 : decode prog_6_method_21_code 40 = .ok (.iload_n 3, 1) := by decide +kernel
theorem d_M_go_41 : decode prog_6_method_21_code 41 = .ok (.iaload, 1) := by decide +kernel
theorem d_M_go_42 : decode prog_6_method_21_code 42 = .ok (.aload_n 0, 1) := by decide +kernel
theorem d_M_go_43 : decode prog_6_method_21_code 43 = .ok (.getfield 28, 3) := by decide +kernel
theorem d_M_go_46 : decode prog_6_method_21_code 46 = .ok (.iload_n 1, 1) := by decide +kernel
theorem d_M_go_47 : decode prog_6_method_21_code 47 = .ok (.iaload, 1) := by decide +kernel
theorem d_M_go_48 : decode prog_6_method_21_code 48 = .ok (.if_icmp .le 85, 3) := by decide +kernel
theorem d_M_go_51 : decode prog_6_method_21_code 51 = .ok (.aload_n 0, 1) := by decide +kernel
theorem d_M_go_52 : decode prog_6_method_21_code 52 = .ok (.getfield 28, 3) := by decide +kernel
theorem d_M_go_55 : decode prog_6_method_21_code 55 = .ok (.iload_n 1, 1) := by decide +kernel
theorem d_M_go_56 : decode prog_6_method_21_code 56 = .ok (.aload_n 0, 1) := by decide +kernel
theorem d_M_go_57 : decode prog_6_method_21_code 57 = .ok (.getfield 47, 3) := by decide +kernel
theorem d_M_go_60 : decode prog_6_method_21_code 60 = .ok (.iload_n 3, 1) := by decide +kernel
theorem d_M_go_61 : decode prog_6_method_21_code 61 = .ok (.iaload, 1) := by decide +kernel
theorem d_M_go_62 : decode prog_6_method_21_code 62 = .ok (.iastore, 1) := by decide +kernel
theorem d_M_go_63 : decode prog_6_method_21_code 63 = .ok (.aload_n 0, 1) := by decide +kernel
theorem d_M_go_64 : decode prog_6_method_21_code 64 = .ok (.iconst 4, 1) := by decide +kernel
theorem d_M_go_65 : decode prog_6_method_21_code 65 = .ok (.aload_n 0, 1) := by decide +kernel
theorem d_M_go_66 : decode prog_6_method_21_code 66 = .ok (.getfield 7, 3) := by decide +kernel
theorem d_M_go_69 : decode prog_6_method_21_code 69 = .ok (.iload_n 1, 1) := by decide +kernel
theorem d_M_go_70 : decode prog_6_method_21_code 70 = .ok (.iaload, 1) := by decide +kernel
theorem d_M_go_71 : decode prog_6_method_21_code 71 = .ok (.aload_n 0, 1) := by decide +kernel
theorem d_M_go_72 : decode prog_6_method_21_code 72 = .ok (.getfield 47, 3) := by decide +kernel
theorem d_M_go_75 : decode prog_6_method_21_code 75 = .ok (.iload_n 3, 1) := by decide +kernel
theorem d_M_go_76 : decode prog_6_method_21_code 76 = .ok (.iaload, 1) := by decide +kernel
theorem d_M_go_77 : decode prog_6_method_21_code 77 = .ok (.invokevirtual 100, 3) := by decide +kernel
theorem d_M_go_80 : decode prog_6_method_21_code 80 = .ok (.goto 53, 3) := by decide +kernel
theorem d_M_go_83 : decode prog_6_method_21_code 83 = .ok (.aload_n 0, 1) := by decide +kernel
theorem d_M_go_84 : decode prog_6_method_21_code 84 = .ok (.iload_n 1, 1) := by decide +kernel
theorem d_M_go_85 : decode prog_6_method_21_code 85 = .ok (.invokevirtual 94, 3) := by decide +kernel
theorem d_M_go_88 : decode prog_6_method_21_code 88 = .ok (.ifCond .eq 30, 3) := by decide +kernel
theorem d_M_go_91 : decode prog_6_method_21_code 91 = .ok (.aload_n 0, 1) := by decide +kernel
theorem d_M_go_92 : decode prog_6_method_21_code 92 = .ok (.getfield 80, 3) := by decide +kernel
theorem d_M_go_95 : decode prog_6_method_21_code 95 = .ok (.bipush 40, 2) := by decide +kernel
theorem d_M_go_97 : decode prog_6_method_21_code 97 = .ok (.if_icmp .ge 36, 3) := by decide +kernel
theorem d_M_go_100 : decode prog_6_method_21_code 100 = .ok (.aload_n 0, 1) := by decide +kernel
theorem d_M_go_101 : decode prog_6_method_21_code 101 = .ok (.aload_n 0, 1) := by decide +kernel
theorem d_M_go_102 : decode prog_6_method_21_code 102 = .ok (.getfield 13, 3) := by decide +kernel
theorem d_M_go_105 : decode prog_6_method_21_code 105 = .ok (.iload_n 1, 1) := by decide +kernel
theorem d_M_go_106 : decode prog_6_method_21_code 106 = .ok (.iaload, 1) := by decide +kernel
theorem d_M_go_107 : decode prog_6_method_21_code 107 = .ok (.iconst 0, 1) := by decide +kernel
theorem d_M_go_108 : decode prog_6_method_21_code 108 = .ok (.iconst 0, 1) := by decide +kernel
theorem d_M_go_109 : decode prog_6_method_21_code 109 = .ok (.invokevirtual 105, 3) := by decide +kernel
theorem d_M_go_112 : decode prog_6_method_21_code 112 = .ok (.pop, 1) := by decide +kernel
theorem d_M_go_113 : decode prog_6_method_21_code 113 = .ok (.iconst 0, 1) := by decide +kernel
theorem d_M_go_114 : decode prog_6_method_21_code 114 = .ok (.istore_n 2, 1) := by decide +kernel
theorem d_M_go_115 : decode prog_6_method_21_code 115 = .ok (.goto 18, 3) := by decide +kernel
theorem d_M_go_118 : decode prog_6_method_21_code 118 = .ok (.aload_n 0, 1) := by decide +kernel
theorem d_M_go_119 : decode prog_6_method_21_code 119 = .ok (.iload_n 1, 1) := by decide +kernel
theorem d_M_go_120 : decode prog_6_method_21_code 120 = .ok (.invokevirtual 123, 3) := by decide +kernel
theorem d_M_go_123 : decode prog_6_method_21_code 123 = .ok (.ifCond .ne 10, 3) := by decide +kernel
theorem d_M_go_126 : decode prog_6_method_21_code 126 = .ok (.aload_n 0, 1) := by decide +kernel
theorem d_M_go_127 : decode prog_6_method_21_code 127 = .ok (.iload_n 1, 1) := by decide +kernel
theorem d_M_go_128 : decode prog_6_method_21_code 128 = .ok (.invokevirtual 109, 3) := by decide +kernel
theorem d_M_go_131 : decode prog_6_method_21_code 131 = .ok (.iconst 0, 1) := by decide +kernel
theorem d_M_go_132 : decode prog_6_method_21_code 132 = .ok (.istore_n 2, 1) := by decide +kernel
theorem d_M_go_133 : decode prog_6_method_21_code 133 = .ok (.iinc 3 1, 3) := by decide +kernel
theorem d_M_go_136 : decode prog_6_method_21_code 136 = .ok (.goto (-132), 3) := by decide +kernel
theorem d_M_go_139 : decode prog_6_method_21_code 139 = .ok (.return_, 1) := by decide +kernel
theorem d_M_isDue_0 : decode prog_6_method_20_code 0 = .ok (.aload_n 0, 1) := by decide +kernel
theorem d_M_isDue_1 : decode prog_6_method_20_code 1 = .ok (.getfield 47, 3) := by decide +kernel
theorem d_M_isDue_4 : decode prog_6_method_20_code 4 = .ok (.iload_n 1, 1) := by decide +kernel
theorem d_M_isDue_5 : decode prog_6_method_20_code 5 = .ok (.iaload, 1) := by decide +kernel
theorem d_M_isDue_6 : decode prog_6_method_20_code 6 = .ok (.ifCond .le 45, 3) := by decide +kernel
theorem d_M_isDue_9 : decode prog_6_method_20_code 9 = .ok (.aload_n 0, 1) := by decide +kernel
theorem d_M_isDue_10 : decode prog_6_method_20_code 10 = .ok (.getfield 50, 3) := by decide +kernel
theorem d_M_isDue_13 : decode prog_6_method_20_code 13 = .ok (.iload_n 1, 1) := by decide +kernel
theorem d_M_isDue_14 : decode prog_6_method_20_code 14 = .ok (.iaload, 1) := by decide +kernel
theorem d_M_isDue_15 : decode prog_6_method_20_code 15 = .ok (.ifCond .lt 18, 3) := by decide +kernel
theorem d_M_isDue_18 : decode prog_6_method_20_code 18 = .ok (.aload_n 0, 1) := by decide +kernel
theorem d_M_isDue_19 : decode prog_6_method_20_code 19 = .ok (.getfield 50, 3) := by decide +kernel
theorem d_M_isDue_22 : decode prog_6_method_20_code 22 = .ok (.iload_n 1, 1) := by decide +kernel
theorem d_M_isDue_23 : decode prog_6_method_20_code 23 = .ok (.iaload, 1) := by decide +kernel
theorem d_M_isDue_24 : decode prog_6_method_20_code 24 = .ok (.aload_n 0, 1) := by decide +kernel
theorem d_M_isDue_25 : decode prog_6_method_20_code 25 = .ok (.getfield 19, 3) := by decide +kernel
theorem d_M_isDue_28 : decode prog_6_method_20_code 28 = .ok (.iload_n 2, 1) := by decide +kernel
theorem d_M_isDue_29 : decode prog_6_method_20_code 29 = .ok (.iaload, 1) := by decide +kernel
theorem d_M_isDue_30 : decode prog_6_method_20_code 30 = .ok (.if_icmp .ne 21, 3) := by decide +kernel
theorem d_M_isDue_33 : decode prog_6_method_20_code 33 = .ok (.aload_n 0, 1) := by decide +kernel
theorem d_M_isDue_34 : decode prog_6_method_20_code 34 = .ok (.getfield 53, 3) := by decide +kernel
theorem d_M_isDue_37 : decode prog_6_method_20_code 37 = .ok (.iload_n 1, 1) := by decide +kernel
theorem d_M_isDue_38 : decode prog_6_method_20_code 38 = .ok (.baload, 1) := by decide +kernel
theorem d_M_isDue_39 : decode prog_6_method_20_code 39 = .ok (.aload_n 0, 1) := by decide +kernel
theorem d_M_isDue_40 : decode prog_6_method_20_code 40 = .ok (.iload_n 2, 1) := by decide +kernel
theorem d_M_isDue_41 : decode prog_6_method_20_code 41 = .ok (.invokevirtual 94, 3) := by decide +kernel
theorem d_M_isDue_44 : decode prog_6_method_20_code 44 = .ok (.if_icmp .ne 7, 3) := by decide +kernel
theorem d_M_isDue_47 : decode prog_6_method_20_code 47 = .ok (.iconst 1, 1) := by decide +kernel
theorem d_M_isDue_48 : decode prog_6_method_20_code 48 = .ok (.goto 4, 3) := by decide +kernel
theorem d_M_isDue_51 : decode prog_6_method_20_code 51 = .ok (.iconst 0, 1) := by decide +kernel
theorem d_M_isDue_52 : decode prog_6_method_20_code 52 = .ok (.istore_n 3, 1) := by decide +kernel
theorem d_M_isDue_53 : decode prog_6_method_20_code 53 = .ok (.iload_n 3, 1) := by decide +kernel
theorem d_M_isDue_54 : decode prog_6_method_20_code 54 = .ok (.ifCond .eq 26, 3) := by decide +kernel
theorem d_M_isDue_57 : decode prog_6_method_20_code 57 = .ok (.aload_n 0, 1) := by decide +kernel
theorem d_M_isDue_58 : decode prog_6_method_20_code 58 = .ok (.getfield 75, 3) := by decide +kernel
theorem d_M_isDue_61 : decode prog_6_method_20_code 61 = .ok (.aload_n 0, 1) := by decide +kernel
theorem d_M_isDue_62 : decode prog_6_method_20_code 62 = .ok (.iload_n 2, 1) := by decide +kernel
theorem d_M_isDue_63 : decode prog_6_method_20_code 63 = .ok (.invokevirtual 116, 3) := by decide +kernel
theorem d_M_isDue_66 : decode prog_6_method_20_code 66 = .ok (.aload_n 0, 1) := by decide +kernel
theorem d_M_isDue_67 : decode prog_6_method_20_code 67 = .ok (.getfield 56, 3) := by decide +kernel
theorem d_M_isDue_70 : decode prog_6_method_20_code 70 = .ok (.iload_n 1, 1) := by decide +kernel
theorem d_M_isDue_71 : decode prog_6_method_20_code 71 = .ok (.iaload, 1) := by decide +kernel
theorem d_M_isDue_72 : decode prog_6_method_20_code 72 = .ok (.iadd, 1) := by decide +kernel
theorem d_M_isDue_73 : decode prog_6_method_20_code 73 = .ok (.if_icmp .lt 7, 3) := by decide +kernel
theorem d_M_isDue_76 : decode prog_6_method_20_code 76 = .ok (.iconst 1, 1) := by decide +kernel
theorem d_M_isDue_77 : decode prog_6_method_20_code 77 = .ok (.goto 4, 3) := by decide +kernel
theorem d_M_isDue_80 : decode prog_6_method_20_code 80 = .ok (.iconst 0, 1) := by decide +kernel
theorem d_M_isDue_81 : decode prog_6_method_20_code 81 = .ok (.ireturn, 1) := by decide +kernel
theorem d_M_isCurrent_0 : decode prog_6_method_7_code 0 = .ok (.aload_n 0, 1) := by decide +kernel
theorem d_M_isCurrent_1 : decode prog_6_method_7_code 1 = .ok (.aload_n 0, 1) := by decide +kernel
theorem d_M_isCurrent_2 : decode prog_6_method_7_code 2 = .ok (.getfield 13, 3) := by decide +kernel
theorem d_M_isCurrent_5 : decode prog_6_method_7_code 5 = .ok (.iload_n 1, 1) := by decide +kernel
theorem d_M_isCurrent_6 : decode prog_6_method_7_code 6 = .ok (.iaload, 1) := by decide +kernel
theorem d_M_isCurrent_7 : decode prog_6_method_7_code 7 = .ok (.invokevirtual 87, 3) := by decide +kernel
theorem d_M_isCurrent_10 : decode prog_6_method_7_code 10 = .ok (.iload_n 1, 1) := by decide +kernel
theorem d_M_isCurrent_11 : decode prog_6_method_7_code 11 = .ok (.if_icmp .ne 7, 3) := by decide +kernel
theorem d_M_isCurrent_14 : decode prog_6_method_7_code 14 = .ok (.iconst 1, 1) := by decide +kernel
theorem d_M_isCurrent_15 : decode prog_6_method_7_code 15 = .ok (.goto 4, 3) := by decide +kernel
theorem d_M_isCurrent_18 : decode prog_6_method_7_code 18 = .ok (.iconst 0, 1) := by decide +kernel
theorem d_M_isCurrent_19 : decode prog_6_method_7_code 19 = .ok (.ireturn, 1) := by decide +kernel
theorem d_M_since_0 : decode prog_6_method_10_code 0 = .ok (.aload_n 0, 1) := by decide +kernel
theorem d_M_since_1 : decode prog_6_method_10_code 1 = .ok (.iload_n 1, 1) := by decide +kernel
theorem d_M_since_2 : decode prog_6_method_10_code 2 = .ok (.invokevirtual 94, 3) := by decide +kernel
theorem d_M_since_5 : decode prog_6_method_10_code 5 = .ok (.ifCond .eq 12, 3) := by decide +kernel
theorem d_M_since_8 : decode prog_6_method_10_code 8 = .ok (.aload_n 0, 1) := by decide +kernel
theorem d_M_since_9 : decode prog_6_method_10_code 9 = .ok (.getfield 22, 3) := by decide +kernel
theorem d_M_since_12 : decode prog_6_method_10_code 12 = .ok (.iload_n 1, 1) := by decide +kernel
theorem d_M_since_13 : decode prog_6_method_10_code 13 = .ok (.iaload, 1) := by decide +kernel
theorem d_M_since_14 : decode prog_6_method_10_code 14 = .ok (.goto 9, 3) := by decide +kernel
theorem d_M_since_17 : decode prog_6_method_10_code 17 = .ok (.aload_n 0, 1) := by decide +kernel
theorem d_M_since_18 : decode prog_6_method_10_code 18 = .ok (.getfield 25, 3) := by decide +kernel
theorem d_M_since_21 : decode prog_6_method_10_code 21 = .ok (.iload_n 1, 1) := by decide +kernel
theorem d_M_since_22 : decode prog_6_method_10_code 22 = .ok (.iaload, 1) := by decide +kernel
theorem d_M_since_23 : decode prog_6_method_10_code 23 = .ok (.ireturn, 1) := by decide +kernel
theorem d_M_isGuarded_0 : decode prog_6_method_9_code 0 = .ok (.aload_n 0, 1) := by decide +kernel
theorem d_M_isGuarded_1 : decode prog_6_method_9_code 1 = .ok (.iload_n 1, 1) := by decide +kernel
theorem d_M_isGuarded_2 : decode prog_6_method_9_code 2 = .ok (.invokevirtual 90, 3) := by decide +kernel
theorem d_M_isGuarded_5 : decode prog_6_method_9_code 5 = .ok (.ifCond .ne 12, 3) := by decide +kernel
theorem d_M_isGuarded_8 : decode prog_6_method_9_code 8 = .ok (.aload_n 0, 1) := by decide +kernel
theorem d_M_isGuarded_9 : decode prog_6_method_9_code 9 = .ok (.getfield 38, 3) := by decide +kernel
theorem d_M_isGuarded_12 : decode prog_6_method_9_code 12 = .ok (.iload_n 1, 1) := by decide +kernel
theorem d_M_isGuarded_13 : decode prog_6_method_9_code 13 = .ok (.iaload, 1) := by decide +kernel
theorem d_M_isGuarded_14 : decode prog_6_method_9_code 14 = .ok (.ifCond .eq 7, 3) := by decide +kernel
theorem d_M_isGuarded_17 : decode prog_6_method_9_code 17 = .ok (.iconst 1, 1) := by decide +kernel
theorem d_M_isGuarded_18 : decode prog_6_method_9_code 18 = .ok (.goto 4, 3) := by decide +kernel
theorem d_M_isGuarded_21 : decode prog_6_method_9_code 21 = .ok (.iconst 0, 1) := by decide +kernel
theorem d_M_isGuarded_22 : decode prog_6_method_9_code 22 = .ok (.ireturn, 1) := by decide +kernel
theorem d_M_versionsOf_0 : decode prog_6_method_22_code 0 = .ok (.iconst 0, 1) := by decide +kernel
theorem d_M_versionsOf_1 : decode prog_6_method_22_code 1 = .ok (.istore_n 2, 1) := by decide +kernel
theorem d_M_versionsOf_2 : decode prog_6_method_22_code 2 = .ok (.iconst 0, 1) := by decide +kernel
theorem d_M_versionsOf_3 : decode prog_6_method_22_code 3 = .ok (.istore_n 3, 1) := by decide +kernel
theorem d_M_versionsOf_4 : decode prog_6_method_22_code 4 = .ok (.iload_n 3, 1) := by decide +kernel
theorem d_M_versionsOf_5 : decode prog_6_method_22_code 5 = .ok (.aload_n 0, 1) := by decide +kernel
theorem d_M_versionsOf_6 : decode prog_6_method_22_code 6 = .ok (.getfield 80, 3) := by decide +kernel
theorem d_M_versionsOf_9 : decode prog_6_method_22_code 9 = .ok (.if_icmp .ge 27, 3) := by decide +kernel
theorem d_M_versionsOf_12 : decode prog_6_method_22_code 12 = .ok (.iload_n 2, 1) := by decide +kernel
theorem d_M_versionsOf_13 : decode prog_6_method_22_code 13 = .ok (.aload_n 0, 1) := by decide +kernel
theorem d_M_versionsOf_14 : decode prog_6_method_22_code 14 = .ok (.getfield 13, 3) := by decide +kernel
theorem d_M_versionsOf_17 : decode prog_6_method_22_code 17 = .ok (.iload_n 3, 1) := by decide +kernel
theorem d_M_versionsOf_18 : decode prog_6_method_22_code 18 = .ok (.iaload, 1) := by decide +kernel
theorem d_M_versionsOf_19 : decode prog_6_method_22_code 19 = .ok (.iload_n 1, 1) := by decide +kernel
theorem d_M_versionsOf_20 : decode prog_6_method_22_code 20 = .ok (.if_icmp .ne 7, 3) := by decide +kernel
theorem d_M_versionsOf_23 : decode prog_6_method_22_code 23 = .ok (.iconst 1, 1) := by decide +kernel
theorem d_M_versionsOf_24 : decode prog_6_method_22_code 24 = .ok (.goto 4, 3) := by decide +kernel
theorem d_M_versionsOf_27 : decode prog_6_method_22_code 27 = .ok (.iconst 0, 1) := by decide +kernel
theorem d_M_versionsOf_28 : decode prog_6_method_22_code 28 = .ok (.iadd, 1) := by decide +kernel
theorem d_M_versionsOf_29 : decode prog_6_method_22_code 29 = .ok (.istore_n 2, 1) := by decide +kernel
theorem d_M_versionsOf_30 : decode prog_6_method_22_code 30 = .ok (.iinc 3 1, 3) := by decide +kernel
theorem d_M_versionsOf_33 : decode prog_6_method_22_code 33 = .ok (.goto (-29), 3) := by decide +kernel
theorem d_M_versionsOf_36 : decode prog_6_method_22_code 36 = .ok (.iload_n 2, 1) := by decide +kernel
theorem d_M_versionsOf_37 : decode prog_6_method_22_code 37 = .ok (.ireturn, 1) := by decide +kernel
theorem d_M_fetch_0 : decode prog_6_method_25_code 0 = .ok (.aload_n 0, 1) := by decide +kernel
theorem d_M_fetch_1 : decode prog_6_method_25_code 1 = .ok (.iload_n 1, 1) := by decide +kernel
theorem d_M_fetch_2 : decode prog_6_method_25_code 2 = .ok (.invokevirtual 113, 3) := by decide +kernel
theorem d_M_fetch_5 : decode prog_6_method_25_code 5 = .ok (.istore_n 3, 1) := by decide +kernel
theorem d_M_fetch_6 : decode prog_6_method_25_code 6 = .ok (.aload_n 0, 1) := by decide +kernel
theorem d_M_fetch_7 : decode prog_6_method_25_code 7 = .ok (.iload_n 3, 1) := by decide +kernel
theorem d_M_fetch_8 : decode prog_6_method_25_code 8 = .ok (.ifCond .ge 7, 3) := by decide +kernel
theorem d_M_fetch_11 : decode prog_6_method_25_code 11 = .ok (.iconst 1, 1) := by decide +kernel
theorem d_M_fetch_12 : decode prog_6_method_25_code 12 = .ok (.goto 33, 3) := by decide +kernel
theorem d_M_fetch_15 : decode prog_6_method_25_code 15 = .ok (.iload_n 2, 1) := by decide +kernel
theorem d_M_fetch_16 : decode prog_6_method_25_code 16 = .ok (.iconst 1, 1) := by decide +kernel
theorem d_M_fetch_17 : decode prog_6_method_25_code 17 = .ok (.if_icmp .lt 9, 3) := by decide +kernel
theorem d_M_fetch_20 : decode prog_6_method_25_code 20 = .ok (.iload_n 2, 1) := by decide +kernel
theorem d_M_fetch_21 : decode prog_6_method_25_code 21 = .ok (.bipush 100, 2) := by decide +kernel
theorem d_M_fetch_23 : decode prog_6_method_25_code 23 = .ok (.if_icmp .le 7, 3) := by decide +kernel
theorem d_M_fetch_26 : decode prog_6_method_25_code 26 = .ok (.iconst 2, 1) := by decide +kernel
theorem d_M_fetch_27 : decode prog_6_method_25_code 27 = .ok (.goto 18, 3) := by decide +kernel
theorem d_M_fetch_30 : decode prog_6_method_25_code 30 = .ok (.aload_n 0, 1) := by decide +kernel
theorem d_M_fetch_31 : decode prog_6_method_25_code 31 = .ok (.getfield 28, 3) := by decide +kernel
theorem d_M_fetch_34 : decode prog_6_method_25_code 34 = .ok (.iload_n 3, 1) := by decide +kernel
theorem d_M_fetch_35 : decode prog_6_method_25_code 35 = .ok (.iaload, 1) := by decide +kernel
theorem d_M_fetch_36 : decode prog_6_method_25_code 36 = .ok (.iconst 2, 1) := by decide +kernel
theorem d_M_fetch_37 : decode prog_6_method_25_code 37 = .ok (.if_icmp .ge 7, 3) := by decide +kernel
theorem d_M_fetch_40 : decode prog_6_method_25_code 40 = .ok (.iconst 3, 1) := by decide +kernel
theorem d_M_fetch_41 : decode prog_6_method_25_code 41 = .ok (.goto 4, 3) := by decide +kernel
theorem d_M_fetch_44 : decode prog_6_method_25_code 44 = .ok (.iconst 0, 1) := by decide +kernel
theorem d_M_fetch_45 : decode prog_6_method_25_code 45 = .ok (.putfield 68, 3) := by decide +kernel
theorem d_M_fetch_48 : decode prog_6_method_25_code 48 = .ok (.aload_n 0, 1) := by decide +kernel
theorem d_M_fetch_49 : decode prog_6_method_25_code 49 = .ok (.getfield 68, 3) := by decide +kernel
theorem d_M_fetch_52 : decode prog_6_method_25_code 52 = .ok (.ifCond .le 5, 3) := by decide +kernel
theorem d_M_fetch_55 : decode prog_6_method_25_code 55 = .ok (.iconst 0, 1) := by decide +kernel
theorem d_M_fetch_56 : decode prog_6_method_25_code 56 = .ok (.ireturn, 1) := by decide +kernel
theorem d_M_fetch_57 : decode prog_6_method_25_code 57 = .ok (.aload_n 0, 1) := by decide +kernel
theorem d_M_fetch_58 : decode prog_6_method_25_code 58 = .ok (.getfield 41, 3) := by decide +kernel
theorem d_M_fetch_61 : decode prog_6_method_25_code 61 = .ok (.iload_n 3, 1) := by decide +kernel
theorem d_M_fetch_62 : decode prog_6_method_25_code 62 = .ok (.aload_n 0, 1) := by decide +kernel
theorem d_M_fetch_63 : decode prog_6_method_25_code 63 = .ok (.getfield 75, 3) := by decide +kernel
theorem d_M_fetch_66 : decode prog_6_method_25_code 66 = .ok (.aload_n 0, 1) := by decide +kernel
theorem d_M_fetch_67 : decode prog_6_method_25_code 67 = .ok (.getfield 28, 3) := by decide +kernel
theorem d_M_fetch_70 : decode prog_6_method_25_code 70 = .ok (.iload_n 3, 1) := by decide +kernel
theorem d_M_fetch_71 : decode prog_6_method_25_code 71 = .ok (.iaload, 1) := by decide +kernel
theorem d_M_fetch_72 : decode prog_6_method_25_code 72 = .ok (.iconst 2, 1) := by decide +kernel
theorem d_M_fetch_73 : decode prog_6_method_25_code 73 = .ok (.if_icmp .ne 7, 3) := by decide +kernel
theorem d_M_fetch_76 : decode prog_6_method_25_code 76 = .ok (.iconst 1, 1) := by decide +kernel
theorem d_M_fetch_77 : decode prog_6_method_25_code 77 = .ok (.goto 4, 3) := by decide +kernel
theorem d_M_fetch_80 : decode prog_6_method_25_code 80 = .ok (.iconst 3, 1) := by decide +kernel
theorem d_M_fetch_81 : decode prog_6_method_25_code 81 = .ok (.iadd, 1) := by decide +kernel
theorem d_M_fetch_82 : decode prog_6_method_25_code 82 = .ok (.iastore, 1) := by decide +kernel
theorem d_M_fetch_83 : decode prog_6_method_25_code 83 = .ok (.aload_n 0, 1) := by decide +kernel
theorem d_M_fetch_84 : decode prog_6_method_25_code 84 = .ok (.getfield 44, 3) := by decide +kernel
theorem d_M_fetch_87 : decode prog_6_method_25_code 87 = .ok (.iload_n 3, 1) := by decide +kernel
theorem d_M_fetch_88 : decode prog_6_method_25_code 88 = .ok (.aload_n 0, 1) := by decide +kernel
theorem d_M_fetch_89 : decode prog_6_method_25_code 89 = .ok (.getfield 41, 3) := by decide +kernel
theorem d_M_fetch_92 : decode prog_6_method_25_code 92 = .ok (.iload_n 3, 1) := by decide +kernel
theorem d_M_fetch_93 : decode prog_6_method_25_code 93 = .ok (.iaload, 1) := by decide +kernel
theorem d_M_fetch_94 : decode prog_6_method_25_code 94 = .ok (.iload_n 2, 1) := by decide +kernel
theorem d_M_fetch_95 : decode prog_6_method_25_code 95 = .ok (.iadd, 1) := by decide +kernel
theorem d_M_fetch_96 : decode prog_6_method_25_code 96 = .ok (.iastore, 1) := by decide +kernel
theorem d_M_fetch_97 : decode prog_6_method_25_code 97 = .ok (.aload_n 0, 1) := by decide +kernel
theorem d_M_fetch_98 : decode prog_6_method_25_code 98 = .ok (.bipush 8, 2) := by decide +kernel
theorem d_M_fetch_100 : decode prog_6_method_25_code 100 = .ok (.iload_n 1, 1) := by decide +kernel
theorem d_M_fetch_101 : decode prog_6_method_25_code 101 = .ok (.aload_n 0, 1) := by decide +kernel
theorem d_M_fetch_102 : decode prog_6_method_25_code 102 = .ok (.getfield 41, 3) := by decide +kernel
theorem d_M_fetch_105 : decode prog_6_method_25_code 105 = .ok (.iload_n 3, 1) := by decide +kernel
theorem d_M_fetch_106 : decode prog_6_method_25_code 106 = .ok (.iaload, 1) := by decide +kernel
theorem d_M_fetch_107 : decode prog_6_method_25_code 107 = .ok (.invokevirtual 100, 3) := by decide +kernel
theorem d_M_fetch_110 : decode prog_6_method_25_code 110 = .ok (.aload_n 0, 1) := by decide +kernel
theorem d_M_fetch_111 : decode prog_6_method_25_code 111 = .ok (.getfield 41, 3) := by decide +kernel
theorem d_M_fetch_114 : decode prog_6_method_25_code 114 = .ok (.iload_n 3, 1) := by decide +kernel
theorem d_M_fetch_115 : decode prog_6_method_25_code 115 = .ok (.iaload, 1) := by decide +kernel
theorem d_M_fetch_116 : decode prog_6_method_25_code 116 = .ok (.ireturn, 1) := by decide +kernel
theorem d_M_read_0 : decode prog_6_method_26_code 0 = .ok (.aload_n 0, 1) := by decide +kernel
theorem d_M_read_1 : decode prog_6_method_26_code 1 = .ok (.iload_n 1, 1) := by decide +kernel
theorem d_M_read_2 : decode prog_6_method_26_code 2 = .ok (.invokevirtual 113, 3) := by decide +kernel
theorem d_M_read_5 : decode prog_6_method_26_code 5 = .ok (.istore_n 2, 1) := by decide +kernel
theorem d_M_read_6 : decode prog_6_method_26_code 6 = .ok (.aload_n 0, 1) := by decide +kernel
theorem d_M_read_7 : decode prog_6_method_26_code 7 = .ok (.iload_n 2, 1) := by decide +kernel
theorem d_M_read_8 : decode prog_6_method_26_code 8 = .ok (.ifCond .ge 7, 3) := by decide +kernel
theorem d_M_read_11 : decode prog_6_method_26_code 11 = .ok (.iconst 1, 1) := by decide +kernel
theorem d_M_read_12 : decode prog_6_method_26_code 12 = .ok (.goto 44, 3) := by decide +kernel
theorem d_M_read_15 : decode prog_6_method_26_code 15 = .ok (.aload_n 0, 1) := by decide +kernel
theorem d_M_read_16 : decode prog_6_method_26_code 16 = .ok (.getfield 28, 3) := by decide +kernel
theorem d_M_read_19 : decode prog_6_method_26_code 19 = .ok (.iload_n 2, 1) := by decide +kernel
theorem d_M_read_20 : decode prog_6_method_26_code 20 = .ok (.iaload, 1) := by decide +kernel
theorem d_M_read_21 : decode prog_6_method_26_code 21 = .ok (.iconst 1, 1) := by decide +kernel
theorem d_M_read_22 : decode prog_6_method_26_code 22 = .ok (.if_icmp .le 33, 3) := by decide +kernel
theorem d_M_read_25 : decode prog_6_method_26_code 25 = .ok (.aload_n 0, 1) := by decide +kernel
theorem d_M_read_26 : decode prog_6_method_26_code 26 = .ok (.getfield 75, 3) := by decide +kernel
theorem d_M_read_29 : decode prog_6_method_26_code 29 = .ok (.aload_n 0, 1) := by decide +kernel
theorem d_M_read_30 : decode prog_6_method_26_code 30 = .ok (.getfield 41, 3) := by decide +kernel
theorem d_M_read_33 : decode prog_6_method_26_code 33 = .ok (.iload_n 2, 1) := by decide +kernel
theorem d_M_read_34 : decode prog_6_method_26_code 34 = .ok (.iaload, 1) := by decide +kernel
theorem d_M_read_35 : decode prog_6_method_26_code 35 = .ok (.if_icmp .lt 16, 3) := by decide +kernel
theorem d_M_read_38 : decode prog_6_method_26_code 38 = .ok (.aload_n 0, 1) := by decide +kernel
theorem d_M_read_39 : decode prog_6_method_26_code 39 = .ok (.getfield 75, 3) := by decide +kernel
theorem d_M_read_42 : decode prog_6_method_26_code 42 = .ok (.aload_n 0, 1) := by decide +kernel
theorem d_M_read_43 : decode prog_6_method_26_code 43 = .ok (.getfield 44, 3) := by decide +kernel
theorem d_M_read_46 : decode prog_6_method_26_code 46 = .ok (.iload_n 2, 1) := by decide +kernel
theorem d_M_read_47 : decode prog_6_method_26_code 47 = .ok (.iaload, 1) := by decide +kernel
theorem d_M_read_48 : decode prog_6_method_26_code 48 = .ok (.if_icmp .lt 7, 3) := by decide +kernel
theorem d_M_read_51 : decode prog_6_method_26_code 51 = .ok (.iconst 2, 1) := by decide +kernel
theorem d_M_read_52 : decode prog_6_method_26_code 52 = .ok (.goto 4, 3) := by decide +kernel
theorem d_M_read_55 : decode prog_6_method_26_code 55 = .ok (.iconst 0, 1) := by decide +kernel
theorem d_M_read_56 : decode prog_6_method_26_code 56 = .ok (.putfield 68, 3) := by decide +kernel
theorem d_M_read_59 : decode prog_6_method_26_code 59 = .ok (.aload_n 0, 1) := by decide +kernel
theorem d_M_read_60 : decode prog_6_method_26_code 60 = .ok (.getfield 68, 3) := by decide +kernel
theorem d_M_read_63 : decode prog_6_method_26_code 63 = .ok (.ifCond .le 7, 3) := by decide +kernel
theorem d_M_read_66 : decode prog_6_method_26_code 66 = .ok (.iconst 0, 1) := by decide +kernel
theorem d_M_read_67 : decode prog_6_method_26_code 67 = .ok (.goto 9, 3) := by decide +kernel
theorem d_M_read_70 : decode prog_6_method_26_code 70 = .ok (.aload_n 0, 1) := by decide +kernel
theorem d_M_read_71 : decode prog_6_method_26_code 71 = .ok (.getfield 16, 3) := by decide +kernel
theorem d_M_read_74 : decode prog_6_method_26_code 74 = .ok (.iload_n 2, 1) := by decide +kernel
theorem d_M_read_75 : decode prog_6_method_26_code 75 = .ok (.iaload, 1) := by decide +kernel
theorem d_M_read_76 : decode prog_6_method_26_code 76 = .ok (.ireturn, 1) := by decide +kernel
