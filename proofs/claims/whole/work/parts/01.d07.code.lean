theorem d_M_current_0 : decode prog_6_method_27_code 0 = .ok (.aload_n 0, 1) := by decide +kernel
theorem d_M_current_1 : decode prog_6_method_27_code 1 = .ok (.iload_n 1, 1) := by decide +kernel
theorem d_M_current_2 : decode prog_6_method_27_code 2 = .ok (.invokevirtual 87, 3) := by decide +kernel
theorem d_M_current_5 : decode prog_6_method_27_code 5 = .ok (.istore_n 2, 1) := by decide +kernel
theorem d_M_current_6 : decode prog_6_method_27_code 6 = .ok (.aload_n 0, 1) := by decide +kernel
theorem d_M_current_7 : decode prog_6_method_27_code 7 = .ok (.iload_n 2, 1) := by decide +kernel
theorem d_M_current_8 : decode prog_6_method_27_code 8 = .ok (.ifCond .lt 12, 3) := by decide +kernel
theorem d_M_current_11 : decode prog_6_method_27_code 11 = .ok (.aload_n 0, 1) := by decide +kernel
theorem d_M_current_12 : decode prog_6_method_27_code 12 = .ok (.getfield 16, 3) := by decide +kernel
theorem d_M_current_15 : decode prog_6_method_27_code 15 = .ok (.iload_n 2, 1) := by decide +kernel
theorem d_M_current_16 : decode prog_6_method_27_code 16 = .ok (.iaload, 1) := by decide +kernel
theorem d_M_current_17 : decode prog_6_method_27_code 17 = .ok (.ifCond .ne 7, 3) := by decide +kernel
theorem d_M_current_20 : decode prog_6_method_27_code 20 = .ok (.iconst 1, 1) := by decide +kernel
theorem d_M_current_21 : decode prog_6_method_27_code 21 = .ok (.goto 4, 3) := by decide +kernel
theorem d_M_current_24 : decode prog_6_method_27_code 24 = .ok (.iconst 0, 1) := by decide +kernel
theorem d_M_current_25 : decode prog_6_method_27_code 25 = .ok (.putfield 68, 3) := by decide +kernel
theorem d_M_current_28 : decode prog_6_method_27_code 28 = .ok (.aload_n 0, 1) := by decide +kernel
theorem d_M_current_29 : decode prog_6_method_27_code 29 = .ok (.getfield 68, 3) := by decide +kernel
theorem d_M_current_32 : decode prog_6_method_27_code 32 = .ok (.ifCond .le 7, 3) := by decide +kernel
theorem d_M_current_35 : decode prog_6_method_27_code 35 = .ok (.iconst 0, 1) := by decide +kernel
theorem d_M_current_36 : decode prog_6_method_27_code 36 = .ok (.goto 9, 3) := by decide +kernel
theorem d_M_current_39 : decode prog_6_method_27_code 39 = .ok (.aload_n 0, 1) := by decide +kernel
theorem d_M_current_40 : decode prog_6_method_27_code 40 = .ok (.getfield 7, 3) := by decide +kernel
theorem d_M_current_43 : decode prog_6_method_27_code 43 = .ok (.iload_n 2, 1) := by decide +kernel
theorem d_M_current_44 : decode prog_6_method_27_code 44 = .ok (.iaload, 1) := by decide +kernel
theorem d_M_current_45 : decode prog_6_method_27_code 45 = .ok (.ireturn, 1) := by decide +kernel
theorem d_M_about_0 : decode prog_6_method_28_code 0 = .ok (.aload_n 0, 1) := by decide +kernel
theorem d_M_about_1 : decode prog_6_method_28_code 1 = .ok (.iload_n 1, 1) := by decide +kernel
theorem d_M_about_2 : decode prog_6_method_28_code 2 = .ok (.invokevirtual 83, 3) := by decide +kernel
theorem d_M_about_5 : decode prog_6_method_28_code 5 = .ok (.istore_n 3, 1) := by decide +kernel
theorem d_M_about_6 : decode prog_6_method_28_code 6 = .ok (.aload_n 0, 1) := by decide +kernel
theorem d_M_about_7 : decode prog_6_method_28_code 7 = .ok (.iload_n 3, 1) := by decide +kernel
theorem d_M_about_8 : decode prog_6_method_28_code 8 = .ok (.ifCond .ge 7, 3) := by decide +kernel
theorem d_M_about_11 : decode prog_6_method_28_code 11 = .ok (.iconst 1, 1) := by decide +kernel
theorem d_M_about_12 : decode prog_6_method_28_code 12 = .ok (.goto 18, 3) := by decide +kernel
theorem d_M_about_15 : decode prog_6_method_28_code 15 = .ok (.iload_n 2, 1) := by decide +kernel
theorem d_M_about_16 : decode prog_6_method_28_code 16 = .ok (.ifCond .lt 9, 3) := by decide +kernel
theorem d_M_about_19 : decode prog_6_method_28_code 19 = .ok (.iload_n 2, 1) := by decide +kernel
theorem d_M_about_20 : decode prog_6_method_28_code 20 = .ok (.bipush 7, 2) := by decide +kernel
theorem d_M_about_22 : decode prog_6_method_28_code 22 = .ok (.if_icmp .le 7, 3) := by decide +kernel
theorem d_M_about_25 : decode prog_6_method_28_code 25 = .ok (.iconst 2, 1) := by decide +kernel
theorem d_M_about_26 : decode prog_6_method_28_code 26 = .ok (.goto 4, 3) := by decide +kernel
theorem d_M_about_29 : decode prog_6_method_28_code 29 = .ok (.iconst 0, 1) := by decide +kernel
theorem d_M_about_30 : decode prog_6_method_28_code 30 = .ok (.putfield 68, 3) := by decide +kernel
theorem d_M_about_33 : decode prog_6_method_28_code 33 = .ok (.aload_n 0, 1) := by decide +kernel
theorem d_M_about_34 : decode prog_6_method_28_code 34 = .ok (.getfield 68, 3) := by decide +kernel
theorem d_M_about_37 : decode prog_6_method_28_code 37 = .ok (.ifCond .le 5, 3) := by decide +kernel
theorem d_M_about_40 : decode prog_6_method_28_code 40 = .ok (.iconst 0, 1) := by decide +kernel
theorem d_M_about_41 : decode prog_6_method_28_code 41 = .ok (.ireturn, 1) := by decide +kernel
theorem d_M_about_42 : decode prog_6_method_28_code 42 = .ok (.iload_n 2, 1) := by decide +kernel
theorem d_M_about_43 : decode prog_6_method_28_code 43 = .ok (.tableswitch 96 0 6 #[41, 48, 55, 62, 68, 82, 89], 41) := by decide +kernel
theorem d_M_about_84 : decode prog_6_method_28_code 84 = .ok (.aload_n 0, 1) := by decide +kernel
theorem d_M_about_85 : decode prog_6_method_28_code 85 = .ok (.getfield 13, 3) := by decide +kernel
theorem d_M_about_88 : decode prog_6_method_28_code 88 = .ok (.iload_n 3, 1) := by decide +kernel
theorem d_M_about_89 : decode prog_6_method_28_code 89 = .ok (.iaload, 1) := by decide +kernel
theorem d_M_about_90 : decode prog_6_method_28_code 90 = .ok (.ireturn, 1) := by decide +kernel
theorem d_M_about_91 : decode prog_6_method_28_code 91 = .ok (.aload_n 0, 1) := by decide +kernel
theorem d_M_about_92 : decode prog_6_method_28_code 92 = .ok (.getfield 16, 3) := by decide +kernel
theorem d_M_about_95 : decode prog_6_method_28_code 95 = .ok (.iload_n 3, 1) := by decide +kernel
theorem d_M_about_96 : decode prog_6_method_28_code 96 = .ok (.iaload, 1) := by decide +kernel
theorem d_M_about_97 : decode prog_6_method_28_code 97 = .ok (.ireturn, 1) := by decide +kernel
theorem d_M_about_98 : decode prog_6_method_28_code 98 = .ok (.aload_n 0, 1) := by decide +kernel
theorem d_M_about_99 : decode prog_6_method_28_code 99 = .ok (.getfield 28, 3) := by decide +kernel
theorem d_M_about_102 : decode prog_6_method_28_code 102 = .ok (.iload_n 3, 1) := by decide +kernel
theorem d_M_about_103 : decode prog_6_method_28_code 103 = .ok (.iaload, 1) := by decide +kernel
theorem d_M_about_104 : decode prog_6_method_28_code 104 = .ok (.ireturn, 1) := by decide +kernel
theorem d_M_about_105 : decode prog_6_method_28_code 105 = .ok (.aload_n 0, 1) := by decide +kernel
theorem d_M_about_106 : decode prog_6_method_28_code 106 = .ok (.iload_n 3, 1) := by decide +kernel
theorem d_M_about_107 : decode prog_6_method_28_code 107 = .ok (.invokevirtual 116, 3) := by decide +kernel
theorem d_M_about_110 : decode prog_6_method_28_code 110 = .ok (.ireturn, 1) := by decide +kernel
theorem d_M_about_111 : decode prog_6_method_28_code 111 = .ok (.aload_n 0, 1) := by decide +kernel
theorem d_M_about_112 : decode prog_6_method_28_code 112 = .ok (.iload_n 3, 1) := by decide +kernel
theorem d_M_about_113 : decode prog_6_method_28_code 113 = .ok (.invokevirtual 94, 3) := by decide +kernel
theorem d_M_about_116 : decode prog_6_method_28_code 116 = .ok (.ifCond .eq 7, 3) := by decide +kernel
theorem d_M_about_119 : decode prog_6_method_28_code 119 = .ok (.iconst 1, 1) := by decide +kernel
theorem d_M_about_120 : decode prog_6_method_28_code 120 = .ok (.goto 4, 3) := by decide +kernel
theorem d_M_about_123 : decode prog_6_method_28_code 123 = .ok (.iconst 0, 1) := by decide +kernel
theorem d_M_about_124 : decode prog_6_method_28_code 124 = .ok (.ireturn, 1) := by decide +kernel
theorem d_M_about_125 : decode prog_6_method_28_code 125 = .ok (.aload_n 0, 1) := by decide +kernel
theorem d_M_about_126 : decode prog_6_method_28_code 126 = .ok (.getfield 31, 3) := by decide +kernel
theorem d_M_about_129 : decode prog_6_method_28_code 129 = .ok (.iload_n 3, 1) := by decide +kernel
theorem d_M_about_130 : decode prog_6_method_28_code 130 = .ok (.iaload, 1) := by decide +kernel
theorem d_M_about_131 : decode prog_6_method_28_code 131 = .ok (.ireturn, 1) := by decide +kernel
theorem d_M_about_132 : decode prog_6_method_28_code 132 = .ok (.aload_n 0, 1) := by decide +kernel
theorem d_M_about_133 : decode prog_6_method_28_code 133 = .ok (.getfield 38, 3) := by decide +kernel
theorem d_M_about_136 : decode prog_6_method_28_code 136 = .ok (.iload_n 3, 1) := by decide +kernel
theorem d_M_about_137 : decode prog_6_method_28_code 137 = .ok (.iaload, 1) := by decide +kernel
theorem d_M_about_138 : decode prog_6_method_28_code 138 = .ok (.ireturn, 1) := by decide +kernel
theorem d_M_about_139 : decode prog_6_method_28_code 139 = .ok (.aload_n 0, 1) := by decide +kernel
theorem d_M_about_140 : decode prog_6_method_28_code 140 = .ok (.iload_n 3, 1) := by decide +kernel
theorem d_M_about_141 : decode prog_6_method_28_code 141 = .ok (.invokevirtual 123, 3) := by decide +kernel
theorem d_M_about_144 : decode prog_6_method_28_code 144 = .ok (.ifCond .eq 7, 3) := by decide +kernel
theorem d_M_about_147 : decode prog_6_method_28_code 147 = .ok (.iconst 1, 1) := by decide +kernel
theorem d_M_about_148 : decode prog_6_method_28_code 148 = .ok (.goto 4, 3) := by decide +kernel
theorem d_M_about_151 : decode prog_6_method_28_code 151 = .ok (.iconst 0, 1) := by decide +kernel
theorem d_M_about_152 : decode prog_6_method_28_code 152 = .ok (.ireturn, 1) := by decide +kernel
theorem d_M_entry_0 : decode prog_6_method_29_code 0 = .ok (.aload_n 0, 1) := by decide +kernel
theorem d_M_entry_1 : decode prog_6_method_29_code 1 = .ok (.iload_n 2, 1) := by decide +kernel
theorem d_M_entry_2 : decode prog_6_method_29_code 2 = .ok (.ifCond .lt 8, 3) := by decide +kernel
theorem d_M_entry_5 : decode prog_6_method_29_code 5 = .ok (.iload_n 2, 1) := by decide +kernel
theorem d_M_entry_6 : decode prog_6_method_29_code 6 = .ok (.iconst 3, 1) := by decide +kernel
theorem d_M_entry_7 : decode prog_6_method_29_code 7 = .ok (.if_icmp .le 7, 3) := by decide +kernel
theorem d_M_entry_10 : decode prog_6_method_29_code 10 = .ok (.iconst 1, 1) := by decide +kernel
theorem d_M_entry_11 : decode prog_6_method_29_code 11 = .ok (.goto 26, 3) := by decide +kernel
theorem d_M_entry_14 : decode prog_6_method_29_code 14 = .ok (.iload_n 1, 1) := by decide +kernel
theorem d_M_entry_15 : decode prog_6_method_29_code 15 = .ok (.ifCond .lt 17, 3) := by decide +kernel
theorem d_M_entry_18 : decode prog_6_method_29_code 18 = .ok (.iload_n 1, 1) := by decide +kernel
theorem d_M_entry_19 : decode prog_6_method_29_code 19 = .ok (.bipush 63, 2) := by decide +kernel
theorem d_M_entry_21 : decode prog_6_method_29_code 21 = .ok (.if_icmp .gt 11, 3) := by decide +kernel
theorem d_M_entry_24 : decode prog_6_method_29_code 24 = .ok (.iload_n 1, 1) := by decide +kernel
theorem d_M_entry_25 : decode prog_6_method_29_code 25 = .ok (.aload_n 0, 1) := by decide +kernel
theorem d_M_entry_26 : decode prog_6_method_29_code 26 = .ok (.getfield 72, 3) := by decide +kernel
theorem d_M_entry_29 : decode prog_6_method_29_code 29 = .ok (.if_icmp .lt 7, 3) := by decide +kernel
theorem d_M_entry_32 : decode prog_6_method_29_code 32 = .ok (.iconst 2, 1) := by decide +kernel
theorem d_M_entry_33 : decode prog_6_method_29_code 33 = .ok (.goto 4, 3) := by decide +kernel
theorem d_M_entry_36 : decode prog_6_method_29_code 36 = .ok (.iconst 0, 1) := by decide +kernel
theorem d_M_entry_37 : decode prog_6_method_29_code 37 = .ok (.putfield 68, 3) := by decide +kernel
theorem d_M_entry_40 : decode prog_6_method_29_code 40 = .ok (.aload_n 0, 1) := by decide +kernel
theorem d_M_entry_41 : decode prog_6_method_29_code 41 = .ok (.getfield 68, 3) := by decide +kernel
theorem d_M_entry_44 : decode prog_6_method_29_code 44 = .ok (.ifCond .le 7, 3) := by decide +kernel
theorem d_M_entry_47 : decode prog_6_method_29_code 47 = .ok (.iconst 0, 1) := by decide +kernel
theorem d_M_entry_48 : decode prog_6_method_29_code 48 = .ok (.goto 23, 3) := by decide +kernel
theorem d_M_entry_51 : decode prog_6_method_29_code 51 = .ok (.aload_n 0, 1) := by decide +kernel
theorem d_M_entry_52 : decode prog_6_method_29_code 52 = .ok (.getfield 59, 3) := by decide +kernel
theorem d_M_entry_55 : decode prog_6_method_29_code 55 = .ok (.aload_n 0, 1) := by decide +kernel
theorem d_M_entry_56 : decode prog_6_method_29_code 56 = .ok (.getfield 72, 3) := by decide +kernel
theorem d_M_entry_59 : decode prog_6_method_29_code 59 = .ok (.iconst 1, 1) := by decide +kernel
theorem d_M_entry_60 : decode prog_6_method_29_code 60 = .ok (.isub, 1) := by decide +kernel
theorem d_M_entry_61 : decode prog_6_method_29_code 61 = .ok (.iload_n 1, 1) := by decide +kernel
theorem d_M_entry_62 : decode prog_6_method_29_code 62 = .ok (.isub, 1) := by decide +kernel
theorem d_M_entry_63 : decode prog_6_method_29_code 63 = .ok (.bipush 64, 2) := by decide +kernel
theorem d_M_entry_65 : decode prog_6_method_29_code 65 = .ok (.irem, 1) := by decide +kernel
theorem d_M_entry_66 : decode prog_6_method_29_code 66 = .ok (.iconst 4, 1) := by decide +kernel
theorem d_M_entry_67 : decode prog_6_method_29_code 67 = .ok (.imul, 1) := by decide +kernel
theorem d_M_entry_68 : decode prog_6_method_29_code 68 = .ok (.iload_n 2, 1) := by decide +kernel
theorem d_M_entry_69 : decode prog_6_method_29_code 69 = .ok (.iadd, 1) := by decide +kernel
theorem d_M_entry_70 : decode prog_6_method_29_code 70 = .ok (.iaload, 1) := by decide +kernel
theorem d_M_entry_71 : decode prog_6_method_29_code 71 = .ok (.ireturn, 1) := by decide +kernel
theorem d_M_link_0 : decode prog_6_method_30_code 0 = .ok (.aload_n 0, 1) := by decide +kernel
theorem d_M_link_1 : decode prog_6_method_30_code 1 = .ok (.iconst 0, 1) := by decide +kernel
theorem d_M_link_2 : decode prog_6_method_30_code 2 = .ok (.putfield 68, 3) := by decide +kernel
theorem d_M_link_5 : decode prog_6_method_30_code 5 = .ok (.aload_n 0, 1) := by decide +kernel
theorem d_M_link_6 : decode prog_6_method_30_code 6 = .ok (.getfield 64, 3) := by decide +kernel
theorem d_M_link_9 : decode prog_6_method_30_code 9 = .ok (.lreturn, 1) := by decide +kernel
theorem d_M_figure_0 : decode prog_6_method_31_code 0 = .ok (.aload_n 0, 1) := by decide +kernel
theorem d_M_figure_1 : decode prog_6_method_31_code 1 = .ok (.iload_n 1, 1) := by decide +kernel
theorem d_M_figure_2 : decode prog_6_method_31_code 2 = .ok (.ifCond .lt 8, 3) := by decide +kernel
theorem d_M_figure_5 : decode prog_6_method_31_code 5 = .ok (.iload_n 1, 1) := by decide +kernel
theorem d_M_figure_6 : decode prog_6_method_31_code 6 = .ok (.iconst 5, 1) := by decide +kernel
theorem d_M_figure_7 : decode prog_6_method_31_code 7 = .ok (.if_icmp .le 7, 3) := by decide +kernel
theorem d_M_figure_10 : decode prog_6_method_31_code 10 = .ok (.iconst 1, 1) := by decide +kernel
theorem d_M_figure_11 : decode prog_6_method_31_code 11 = .ok (.goto 4, 3) := by decide +kernel
theorem d_M_figure_14 : decode prog_6_method_31_code 14 = .ok (.iconst 0, 1) := by decide +kernel
theorem d_M_figure_15 : decode prog_6_method_31_code 15 = .ok (.putfield 68, 3) := by decide +kernel
theorem d_M_figure_18 : decode prog_6_method_31_code 18 = .ok (.aload_n 0, 1) := by decide +kernel
theorem d_M_figure_19 : decode prog_6_method_31_code 19 = .ok (.getfield 68, 3) := by decide +kernel
theorem d_M_figure_22 : decode prog_6_method_31_code 22 = .ok (.ifCond .le 5, 3) := by decide +kernel
theorem d_M_figure_25 : decode prog_6_method_31_code 25 = .ok (.iconst 0, 1) := by decide +kernel
theorem d_M_figure_26 : decode prog_6_method_31_code 26 = .ok (.ireturn, 1) := by decide +kernel
theorem d_M_figure_27 : decode prog_6_method_31_code 27 = .ok (.iconst 0, 1) := by decide +kernel
theorem d_M_figure_28 : decode prog_6_method_31_code 28 = .ok (.istore_n 2, 1) := by decide +kernel
theorem d_M_figure_29 : decode prog_6_method_31_code 29 = .ok (.iconst 0, 1) := by decide +kernel
theorem d_M_figure_30 : decode prog_6_method_31_code 30 = .ok (.istore_n 3, 1) := by decide +kernel
theorem d_M_figure_31 : decode prog_6_method_31_code 31 = .ok (.iconst 0, 1) := by decide +kernel
theorem d_M_figure_32 : decode prog_6_method_31_code 32 = .ok (.istore 4, 2) := by decide +kernel
theorem d_M_figure_34 : decode prog_6_method_31_code 34 = .ok (.iload 4, 2) := by decide +kernel
theorem d_M_figure_36 : decode prog_6_method_31_code 36 = .ok (.aload_n 0, 1) := by decide +kernel
theorem d_M_figure_37 : decode prog_6_method_31_code 37 = .ok (.getfield 80, 3) := by decide +kernel
theorem d_M_figure_40 : decode prog_6_method_31_code 40 = .ok (.if_icmp .ge 46, 3) := by decide +kernel
theorem d_M_figure_43 : decode prog_6_method_31_code 43 = .ok (.iload_n 2, 1) := by decide +kernel
theorem d_M_figure_44 : decode prog_6_method_31_code 44 = .ok (.aload_n 0, 1) := by decide +kernel
theorem d_M_figure_45 : decode prog_6_method_31_code 45 = .ok (.getfield 16, 3) := by decide +kernel
theorem d_M_figure_48 : decode prog_6_method_31_code 48 = .ok (.iload 4, 2) := by decide +kernel
theorem d_M_figure_50 : decode prog_6_method_31_code 50 = .ok (.iaload, 1) := by decide +kernel
theorem d_M_figure_51 : decode prog_6_method_31_code 51 = .ok (.iadd, 1) := by decide +kernel
theorem d_M_figure_52 : decode prog_6_method_31_code 52 = .ok (.istore_n 2, 1) := by decide +kernel
theorem d_M_figure_53 : decode prog_6_method_31_code 53 = .ok (.iload_n 3, 1) := by decide +kernel
theorem d_M_figure_54 : decode prog_6_method_31_code 54 = .ok (.aload_n 0, 1) := by decide +kernel
theorem d_M_figure_55 : decode prog_6_method_31_code 55 = .ok (.getfield 16, 3) := by decide +kernel
theorem d_M_figure_58 : decode prog_6_method_31_code 58 = .ok (.iload 4, 2) := by decide +kernel
theorem d_M_figure_60 : decode prog_6_method_31_code 60 = .ok (.iaload, 1) := by decide +kernel
theorem d_M_figure_61 : decode prog_6_method_31_code 61 = .ok (.ifCond .le 16, 3) := by decide +kernel
theorem d_M_figure_64 : decode prog_6_method_31_code 64 = .ok (.aload_n 0, 1) := by decide +kernel
theorem d_M_figure_65 : decode prog_6_method_31_code 65 = .ok (.iload 4, 2) := by decide +kernel
theorem d_M_figure_67 : decode prog_6_method_31_code 67 = .ok (.invokevirtual 123, 3) := by decide +kernel
theorem d_M_figure_70 : decode prog_6_method_31_code 70 = .ok (.ifCond .eq 7, 3) := by decide +kernel
theorem d_M_figure_73 : decode prog_6_method_31_code 73 = .ok (.iconst 1, 1) := by decide +kernel
theorem d_M_figure_74 : decode prog_6_method_31_code 74 = .ok (.goto 4, 3) := by decide +kernel
theorem d_M_figure_77 : decode prog_6_method_31_code 77 = .ok (.iconst 0, 1) := by decide +kernel
theorem d_M_figure_78 : decode prog_6_method_31_code 78 = .ok (.iadd, 1) := by decide +kernel
theorem d_M_figure_79 : decode prog_6_method_31_code 79 = .ok (.istore_n 3, 1) := by decide +kernel
theorem d_M_figure_80 : decode prog_6_method_31_code 80 = .ok (.iinc 4 1, 3) := by decide +kernel
theorem d_M_figure_83 : decode prog_6_method_31_code 83 = .ok (.goto (-49), 3) := by decide +kernel
theorem d_M_figure_86 : decode prog_6_method_31_code 86 = .ok (.iload_n 1, 1) := by decide +kernel
theorem d_M_figure_87 : decode prog_6_method_31_code 87 = .ok (.ifCond .ne 10, 3) := by decide +kernel
theorem d_M_figure_90 : decode prog_6_method_31_code 90 = .ok (.aload_n 0, 1) := by decide +kernel
theorem d_M_figure_91 : decode prog_6_method_31_code 91 = .ok (.getfield 75, 3) := by decide +kernel
theorem d_M_figure_94 : decode prog_6_method_31_code 94 = .ok (.goto 49, 3) := by decide +kernel
theorem d_M_figure_97 : decode prog_6_method_31_code 97 = .ok (.iload_n 1, 1) := by decide +kernel
theorem d_M_figure_98 : decode prog_6_method_31_code 98 = .ok (.iconst 1, 1) := by decide +kernel
theorem d_M_figure_99 : decode prog_6_method_31_code 99 = .ok (.if_icmp .ne 10, 3) := by decide +kernel
theorem d_M_figure_102 : decode prog_6_method_31_code 102 = .ok (.aload_n 0, 1) := by decide +kernel
theorem d_M_figure_103 : decode prog_6_method_31_code 103 = .ok (.getfield 80, 3) := by decide +kernel
theorem d_M_figure_106 : decode prog_6_method_31_code 106 = .ok (.goto 37, 3) := by decide +kernel
theorem d_M_figure_109 : decode prog_6_method_31_code 109 = .ok (.iload_n 1, 1) := by decide +kernel
theorem d_M_figure_110 : decode prog_6_method_31_code 110 = .ok (.iconst 2, 1) := by decide +kernel
theorem d_M_figure_111 : decode prog_6_method_31_code 111 = .ok (.if_icmp .ne 10, 3) := by decide +kernel
theorem d_M_figure_114 : decode prog_6_method_31_code 114 = .ok (.aload_n 0, 1) := by decide +kernel
theorem d_M_figure_115 : decode prog_6_method_31_code 115 = .ok (.getfield 97, 3) := by decide +kernel
theorem d_M_figure_118 : decode prog_6_method_31_code 118 = .ok (.goto 25, 3) := by decide +kernel
theorem d_M_figure_121 : decode prog_6_method_31_code 121 = .ok (.iload_n 1, 1) := by decide +kernel
theorem d_M_figure_122 : decode prog_6_method_31_code 122 = .ok (.iconst 3, 1) := by decide +kernel
theorem d_M_figure_123 : decode prog_6_method_31_code 123 = .ok (.if_icmp .ne 10, 3) := by decide +kernel
theorem d_M_figure_126 : decode prog_6_method_31_code 126 = .ok (.aload_n 0, 1) := by decide +kernel
theorem d_M_figure_127 : decode prog_6_method_31_code 127 = .ok (.getfield 72, 3) := by decide +kernel
theorem d_M_figure_130 : decode prog_6_method_31_code 130 = .ok (.goto 13, 3) := by decide +kernel
theorem d_M_figure_133 : decode prog_6_method_31_code 133 = .ok (.iload_n 1, 1) := by decide +kernel
theorem d_M_figure_134 : decode prog_6_method_31_code 134 = .ok (.iconst 4, 1) := by decide +kernel
theorem d_M_figure_135 : decode prog_6_method_31_code 135 = .ok (.if_icmp .ne 7, 3) := by decide +kernel
theorem d_M_figure_138 : decode prog_6_method_31_code 138 = .ok (.iload_n 2, 1) := by decide +kernel
theorem d_M_figure_139 : decode prog_6_method_31_code 139 = .ok (.goto 4, 3) := by decide +kernel
theorem d_M_figure_142 : decode prog_6_method_31_code 142 = .ok (.iload_n 3, 1) := by decide +kernel
theorem d_M_figure_143 : decode prog_6_method_31_code 143 = .ok (.ireturn, 1) := by decide +kernel
