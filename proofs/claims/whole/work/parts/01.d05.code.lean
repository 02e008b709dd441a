theorem d_M_find_0 : decode prog_6_method_4_code 0 = .ok (.iconst (-1), 1) := by decide +kernel
theorem d_M_find_1 : decode prog_6_method_4_code 1 = .ok (.istore_n 2, 1) := by decide +kernel
theorem d_M_find_2 : decode prog_6_method_4_code 2 = .ok (.iconst 0, 1) := by decide +kernel
theorem d_M_find_3 : decode prog_6_method_4_code 3 = .ok (.istore_n 3, 1) := by decide +kernel
theorem d_M_find_4 : decode prog_6_method_4_code 4 = .ok (.iload_n 3, 1) := by decide +kernel
theorem d_M_find_5 : decode prog_6_method_4_code 5 = .ok (.aload_n 0, 1) := by decide +kernel
theorem d_M_find_6 : decode prog_6_method_4_code 6 = .ok (.getfield 80, 3) := by decide +kernel
theorem d_M_find_9 : decode prog_6_method_4_code 9 = .ok (.if_icmp .ge 25, 3) := by decide +kernel
theorem d_M_find_12 : decode prog_6_method_4_code 12 = .ok (.aload_n 0, 1) := by decide +kernel
theorem d_M_find_13 : decode prog_6_method_4_code 13 = .ok (.getfield 7, 3) := by decide +kernel
theorem d_M_find_16 : decode prog_6_method_4_code 16 = .ok (.iload_n 3, 1) := by decide +kernel
theorem d_M_find_17 : decode prog_6_method_4_code 17 = .ok (.iaload, 1) := by decide +kernel
theorem d_M_find_18 : decode prog_6_method_4_code 18 = .ok (.iload_n 1, 1) := by decide +kernel
theorem d_M_find_19 : decode prog_6_method_4_code 19 = .ok (.if_icmp .ne 7, 3) := by decide +kernel
theorem d_M_find_22 : decode prog_6_method_4_code 22 = .ok (.iload_n 3, 1) := by decide +kernel
theorem d_M_find_23 : decode prog_6_method_4_code 23 = .ok (.goto 4, 3) := by decide +kernel
theorem d_M_find_26 : decode prog_6_method_4_code 26 = .ok (.iload_n 2, 1) := by decide +kernel
theorem d_M_find_27 : decode prog_6_method_4_code 27 = .ok (.istore_n 2, 1) := by decide +kernel
theorem d_M_find_28 : decode prog_6_method_4_code 28 = .ok (.iinc 3 1, 3) := by decide +kernel
theorem d_M_find_31 : decode prog_6_method_4_code 31 = .ok (.goto (-27), 3) := by decide +kernel
theorem d_M_find_34 : decode prog_6_method_4_code 34 = .ok (.iload_n 2, 1) := by decide +kernel
theorem d_M_find_35 : decode prog_6_method_4_code 35 = .ok (.ireturn, 1) := by decide +kernel
theorem d_M_isRetained_0 : decode prog_6_method_8_code 0 = .ok (.aload_n 0, 1) := by decide +kernel
theorem d_M_isRetained_1 : decode prog_6_method_8_code 1 = .ok (.getfield 75, 3) := by decide +kernel
theorem d_M_isRetained_4 : decode prog_6_method_8_code 4 = .ok (.aload_n 0, 1) := by decide +kernel
theorem d_M_isRetained_5 : decode prog_6_method_8_code 5 = .ok (.getfield 31, 3) := by decide +kernel
theorem d_M_isRetained_8 : decode prog_6_method_8_code 8 = .ok (.iload_n 1, 1) := by decide +kernel
theorem d_M_isRetained_9 : decode prog_6_method_8_code 9 = .ok (.iaload, 1) := by decide +kernel
theorem d_M_isRetained_10 : decode prog_6_method_8_code 10 = .ok (.if_icmp .ge 7, 3) := by decide +kernel
theorem d_M_isRetained_13 : decode prog_6_method_8_code 13 = .ok (.iconst 1, 1) := by decide +kernel
theorem d_M_isRetained_14 : decode prog_6_method_8_code 14 = .ok (.goto 4, 3) := by decide +kernel
theorem d_M_isRetained_17 : decode prog_6_method_8_code 17 = .ok (.iconst 0, 1) := by decide +kernel
theorem d_M_isRetained_18 : decode prog_6_method_8_code 18 = .ok (.ireturn, 1) := by decide +kernel
theorem d_M_takeAway_0 : decode prog_6_method_12_code 0 = .ok (.aload_n 0, 1) := by decide +kernel
theorem d_M_takeAway_1 : decode prog_6_method_12_code 1 = .ok (.iconst 3, 1) := by decide +kernel
theorem d_M_takeAway_2 : decode prog_6_method_12_code 2 = .ok (.aload_n 0, 1) := by decide +kernel
theorem d_M_takeAway_3 : decode prog_6_method_12_code 3 = .ok (.getfield 7, 3) := by decide +kernel
theorem d_M_takeAway_6 : decode prog_6_method_12_code 6 = .ok (.iload_n 1, 1) := by decide +kernel
theorem d_M_takeAway_7 : decode prog_6_method_12_code 7 = .ok (.iaload, 1) := by decide +kernel
theorem d_M_takeAway_8 : decode prog_6_method_12_code 8 = .ok (.aload_n 0, 1) := by decide +kernel
theorem d_M_takeAway_9 : decode prog_6_method_12_code 9 = .ok (.getfield 13, 3) := by decide +kernel
theorem d_M_takeAway_12 : decode prog_6_method_12_code 12 = .ok (.iload_n 1, 1) := by decide +kernel
theorem d_M_takeAway_13 : decode prog_6_method_12_code 13 = .ok (.iaload, 1) := by decide +kernel
theorem d_M_takeAway_14 : decode prog_6_method_12_code 14 = .ok (.invokevirtual 100, 3) := by decide +kernel
theorem d_M_takeAway_17 : decode prog_6_method_12_code 17 = .ok (.aload_n 0, 1) := by decide +kernel
theorem d_M_takeAway_18 : decode prog_6_method_12_code 18 = .ok (.dup, 1) := by decide +kernel
theorem d_M_takeAway_19 : decode prog_6_method_12_code 19 = .ok (.getfield 80, 3) := by decide +kernel
theorem d_M_takeAway_22 : decode prog_6_method_12_code 22 = .ok (.iconst 1, 1) := by decide +kernel
theorem d_M_takeAway_23 : decode prog_6_method_12_code 23 = .ok (.isub, 1) := by decide +kernel
theorem d_M_takeAway_24 : decode prog_6_method_12_code 24 = .ok (.putfield 80, 3) := by decide +kernel
theorem d_M_takeAway_27 : decode prog_6_method_12_code 27 = .ok (.iload_n 1, 1) := by decide +kernel
theorem d_M_takeAway_28 : decode prog_6_method_12_code 28 = .ok (.istore_n 2, 1) := by decide +kernel
theorem d_M_takeAway_29 : decode prog_6_method_12_code 29 = .ok (.iload_n 2, 1) := by decide +kernel
theorem d_M_takeAway_30 : decode prog_6_method_12_code 30 = .ok (.aload_n 0, 1) := by decide +kernel
theorem d_M_takeAway_31 : decode prog_6_method_12_code 31 = .ok (.getfield 80, 3) := by decide +kernel
theorem d_M_takeAway_34 : decode prog_6_method_12_code 34 = .ok (.if_icmp .ge 177, 3) := by decide +kernel
theorem d_M_takeAway_37 : decode prog_6_method_12_code 37 = .ok (.aload_n 0, 1) := by decide +kernel
theorem d_M_takeAway_38 : decode prog_6_method_12_code 38 = .ok (.getfield 7, 3) := by decide +kernel
theorem d_M_takeAway_41 : decode prog_6_method_12_code 41 = .ok (.iload_n 2, 1) := by decide +kernel
theorem d_M_takeAway_42 : decode prog_6_method_12_code 42 = .ok (.aload_n 0, 1) := by decide +kernel
theorem d_M_takeAway_43 : decode prog_6_method_12_code 43 = .ok (.getfield 7, 3) := by decide +kernel
theorem d_M_takeAway_46 : decode prog_6_method_12_code 46 = .ok (.iload_n 2, 1) := by decide +kernel
theorem d_M_takeAway_47 : decode prog_6_method_12_code 47 = .ok (.iconst 1, 1) := by decide +kernel
theorem d_M_takeAway_48 : decode prog_6_method_12_code 48 = .ok (.iadd, 1) := by decide +kernel
theorem d_M_takeAway_49 : decode prog_6_method_12_code 49 = .ok (.iaload, 1) := by decide +kernel
theorem d_M_takeAway_50 : decode prog_6_method_12_code 50 = .ok (.iastore, 1) := by decide +kernel
theorem d_M_takeAway_51 : decode prog_6_method_12_code 51 = .ok (.aload_n 0, 1) := by decide +kernel
theorem d_M_takeAway_52 : decode prog_6_method_12_code 52 = .ok (.getfield 13, 3) := by decide +kernel
theorem d_M_takeAway_55 : decode prog_6_method_12_code 55 = .ok (.iload_n 2, 1) := by decide +kernel
theorem d_M_takeAway_56 : decode prog_6_method_12_code 56 = .ok (.aload_n 0, 1) := by decide +kernel
theorem d_M_takeAway_57 : decode prog_6_method_12_code 57 = .ok (.getfield 13, 3) := by decide +kernel
theorem d_M_takeAway_60 : decode prog_6_method_12_code 60 = .ok (.iload_n 2, 1) := by decide +kernel
theorem d_M_takeAway_61 : decode prog_6_method_12_code 61 = .ok (.iconst 1, 1) := by decide +kernel
theorem d_M_takeAway_62 : decode prog_6_method_12_code 62 = .ok (.iadd, 1) := by decide +kernel
theorem d_M_takeAway_63 : decode prog_6_method_12_code 63 = .ok (.iaload, 1) := by decide +kernel
theorem d_M_takeAway_64 : decode prog_6_method_12_code 64 = .ok (.iastore, 1) := by decide +kernel
theorem d_M_takeAway_65 : decode prog_6_method_12_code 65 = .ok (.aload_n 0, 1) := by decide +kernel
theorem d_M_takeAway_66 : decode prog_6_method_12_code 66 = .ok (.getfield 16, 3) := by decide +kernel
theorem d_M_takeAway_69 : decode prog_6_method_12_code 69 = .ok (.iload_n 2, 1) := by decide +kernel
theorem d_M_takeAway_70 : decode prog_6_method_12_code 70 = .ok (.aload_n 0, 1) := by decide +kernel
theorem d_M_takeAway_71 : decode prog_6_method_12_code 71 = .ok (.getfield 16, 3) := by decide +kernel
theorem d_M_takeAway_74 : decode prog_6_method_12_code 74 = .ok (.iload_n 2, 1) := by decide +kernel
theorem d_M_takeAway_75 : decode prog_6_method_12_code 75 = .ok (.iconst 1, 1) := by decide +kernel
theorem d_M_takeAway_76 : decode prog_6_method_12_code 76 = .ok (.iadd, 1) := by decide +kernel
theorem d_M_takeAway_77 : decode prog_6_method_12_code 77 = .ok (.iaload, 1) := by decide +kernel
theorem d_M_takeAway_78 : decode prog_6_method_12_code 78 = .ok (.iastore, 1) := by decide +kernel
theorem d_M_takeAway_79 : decode prog_6_method_12_code 79 = .ok (.aload_n 0, 1) := by decide +kernel
theorem d_M_takeAway_80 : decode prog_6_method_12_code 80 = .ok (.getfield 19, 3) := by decide +kernel
theorem d_M_takeAway_83 : decode prog_6_method_12_code 83 = .ok (.iload_n 2, 1) := by decide +kernel
theorem d_M_takeAway_84 : decode prog_6_method_12_code 84 = .ok (.aload_n 0, 1) := by decide +kernel
theorem d_M_takeAway_85 : decode prog_6_method_12_code 85 = .ok (.getfield 19, 3) := by decide +kernel
theorem d_M_takeAway_88 : decode prog_6_method_12_code 88 = .ok (.iload_n 2, 1) := by decide +kernel
theorem d_M_takeAway_89 : decode prog_6_method_12_code 89 = .ok (.iconst 1, 1) := by decide +kernel
theorem d_M_takeAway_90 : decode prog_6_method_12_code 90 = .ok (.iadd, 1) := by decide +kernel
theorem d_M_takeAway_91 : decode prog_6_method_12_code 91 = .ok (.iaload, 1) := by decide +kernel
theorem d_M_takeAway_92 : decode prog_6_method_12_code 92 = .ok (.iastore, 1) := by decide +kernel
theorem d_M_takeAway_93 : decode prog_6_method_12_code 93 = .ok (.aload_n 0, 1) := by decide +kernel
theorem d_M_takeAway_94 : decode prog_6_method_12_code 94 = .ok (.getfield 22, 3) := by decide +kernel
theorem d_M_takeAway_97 : decode prog_6_method_12_code 97 = .ok (.iload_n 2, 1) := by decide +kernel
theorem d_M_takeAway_98 : decode prog_6_method_12_code 98 = .ok (.aload_n 0, 1) := by decide +kernel
theorem d_M_takeAway_99 : decode prog_6_method_12_code 99 = .ok (.getfield 22, 3) := by decide +kernel
theorem d_M_takeAway_102 : decode prog_6_method_12_code 102 = .ok (.iload_n 2, 1) := by decide +kernel
theorem d_M_takeAway_103 : decode prog_6_method_12_code 103 = .ok (.iconst 1, 1) := by decide +kernel
theorem d_M_takeAway_104 : decode prog_6_method_12_code 104 = .ok (.iadd, 1) := by decide +kernel
theorem d_M_takeAway_105 : decode prog_6_method_12_code 105 = .ok (.iaload, 1) := by decide +kernel
theorem d_M_takeAway_106 : decode prog_6_method_12_code 106 = .ok (.iastore, 1) := by decide +kernel
theorem d_M_takeAway_107 : decode prog_6_method_12_code 107 = .ok (.aload_n 0, 1) := by decide +kernel
theorem d_M_takeAway_108 : decode prog_6_method_12_code 108 = .ok (.getfield 25, 3) := by decide +kernel
theorem d_M_takeAway_111 : decode prog_6_method_12_code 111 = .ok (.iload_n 2, 1) := by decide +kernel
theorem d_M_takeAway_112 : decode prog_6_method_12_code 112 = .ok (.aload_n 0, 1) := by decide +kernel
theorem d_M_takeAway_113 : decode prog_6_method_12_code 113 = .ok (.getfield 25, 3) := by decide +kernel
theorem d_M_takeAway_116 : decode prog_6_method_12_code 116 = .ok (.iload_n 2, 1) := by decide +kernel
theorem d_M_takeAway_117 : decode prog_6_method_12_code 117 = .ok (.iconst 1, 1) := by decide +kernel
theorem d_M_takeAway_118 : decode prog_6_method_12_code 118 = .ok (.iadd, 1) := by decide +kernel
theorem d_M_takeAway_119 : decode prog_6_method_12_code 119 = .ok (.iaload, 1) := by decide +kernel
theorem d_M_takeAway_120 : decode prog_6_method_12_code 120 = .ok (.iastore, 1) := by decide +kernel
theorem d_M_takeAway_121 : decode prog_6_method_12_code 121 = .ok (.aload_n 0, 1) := by decide +kernel
theorem d_M_takeAway_122 : decode prog_6_method_12_code 122 = .ok (.getfield 28, 3) := by decide +kernel
theorem d_M_takeAway_125 : decode prog_6_method_12_code 125 = .ok (.iload_n 2, 1) := by decide +kernel
theorem d_M_takeAway_126 : decode prog_6_method_12_code 126 = .ok (.aload_n 0, 1) := by decide +kernel
theorem d_M_takeAway_127 : decode prog_6_method_12_code 127 = .ok (.getfield 28, 3) := by decide +kernel
theorem d_M_takeAway_130 : decode prog_6_method_12_code 130 = .ok (.iload_n 2, 1) := by decide +kernel
theorem d_M_takeAway_131 : decode prog_6_method_12_code 131 = .ok (.iconst 1, 1) := by decide +kernel
theorem d_M_takeAway_132 : decode prog_6_method_12_code 132 = .ok (.iadd, 1) := by decide +kernel
theorem d_M_takeAway_133 : decode prog_6_method_12_code 133 = .ok (.iaload, 1) := by decide +kernel
theorem d_M_takeAway_134 : decode prog_6_method_12_code 134 = .ok (.iastore, 1) := by decide +kernel
theorem d_M_takeAway_135 : decode prog_6_method_12_code 135 = .ok (.aload_n 0, 1) := by decide +kernel
theorem d_M_takeAway_136 : decode prog_6_method_12_code 136 = .ok (.getfield 31, 3) := by decide +kernel
theorem d_M_takeAway_139 : decode prog_6_method_12_code 139 = .ok (.iload_n 2, 1) := by decide +kernel
theorem d_M_takeAway_140 : decode prog_6_method_12_code 140 = .ok (.aload_n 0, 1) := by decide +kernel
theorem d_M_takeAway_141 : decode prog_6_method_12_code 141 = .ok (.getfield 31, 3) := by decide +kernel
theorem d_M_takeAway_144 : decode prog_6_method_12_code 144 = .ok (.iload_n 2, 1) := by decide +kernel
theorem d_M_takeAway_145 : decode prog_6_method_12_code 145 = .ok (.iconst 1, 1) := by decide +kernel
theorem d_M_takeAway_146 : decode prog_6_method_12_code 146 = .ok (.iadd, 1) := by decide +kernel
theorem d_M_takeAway_147 : decode prog_6_method_12_code 147 = .ok (.iaload, 1) := by decide +kernel
theorem d_M_takeAway_148 : decode prog_6_method_12_code 148 = .ok (.iastore, 1) := by decide +kernel
theorem d_M_takeAway_149 : decode prog_6_method_12_code 149 = .ok (.aload_n 0, 1) := by decide +kernel
theorem d_M_takeAway_150 : decode prog_6_method_12_code 150 = .ok (.getfield 34, 3) := by decide +kernel
theorem d_M_takeAway_153 : decode prog_6_method_12_code 153 = .ok (.iload_n 2, 1) := by decide +kernel
theorem d_M_takeAway_154 : decode prog_6_method_12_code 154 = .ok (.aload_n 0, 1) := by decide +kernel
theorem d_M_takeAway_155 : decode prog_6_method_12_code 155 = .ok (.getfield 34, 3) := by decide +kernel
theorem d_M_takeAway_158 : decode prog_6_method_12_code 158 = .ok (.iload_n 2, 1) := by decide +kernel
theorem d_M_takeAway_159 : decode prog_6_method_12_code 159 = .ok (.iconst 1, 1) := by decide +kernel
theorem d_M_takeAway_160 : decode prog_6_method_12_code 160 = .ok (.iadd, 1) := by decide +kernel
theorem d_M_takeAway_161 : decode prog_6_method_12_code 161 = .ok (.baload, 1) := by decide +kernel
theorem d_M_takeAway_162 : decode prog_6_method_12_code 162 = .ok (.bastore, 1) := by decide +kernel
theorem d_M_takeAway_163 : decode prog_6_method_12_code 163 = .ok (.aload_n 0, 1) := by decide +kernel
theorem d_M_takeAway_164 : decode prog_6_method_12_code 164 = .ok (.getfield 38, 3) := by decide +kernel
theorem d_M_takeAway_167 : decode prog_6_method_12_code 167 = .ok (.iload_n 2, 1) := by decide +kernel
theorem d_M_takeAway_168 : decode prog_6_method_12_code 168 = .ok (.aload_n 0, 1) := by decide +kernel
theorem d_M_takeAway_169 : decode prog_6_method_12_code 169 = .ok (.getfield 38, 3) := by decide +kernel
theorem d_M_takeAway_172 : decode prog_6_method_12_code 172 = .ok (.iload_n 2, 1) := by decide +kernel
theorem d_M_takeAway_173 : decode prog_6_method_12_code 173 = .ok (.iconst 1, 1) := by decide +kernel
theorem d_M_takeAway_174 : decode prog_6_method_12_code 174 = .ok (.iadd, 1) := by decide +kernel
theorem d_M_takeAway_175 : decode prog_6_method_12_code 175 = .ok (.iaload, 1) := by decide +kernel
theorem d_M_takeAway_176 : decode prog_6_method_12_code 176 = .ok (.iastore, 1) := by decide +kernel
theorem d_M_takeAway_177 : decode prog_6_method_12_code 177 = .ok (.aload_n 0, 1) := by decide +kernel
theorem d_M_takeAway_178 : decode prog_6_method_12_code 178 = .ok (.getfield 41, 3) := by decide +kernel
theorem d_M_takeAway_181 : decode prog_6_method_12_code 181 = .ok (.iload_n 2, 1) := by decide +kernel
theorem d_M_takeAway_182 : decode prog_6_method_12_code 182 = .ok (.aload_n 0, 1) := by decide +kernel
theorem d_M_takeAway_183 : decode prog_6_method_12_code 183 = .ok (.getfield 41, 3) := by decide +kernel
theorem d_M_takeAway_186 : decode prog_6_method_12_code 186 = .ok (.iload_n 2, 1) := by decide +kernel
theorem d_M_takeAway_187 : decode prog_6_method_12_code 187 = .ok (.iconst 1, 1) := by decide +kernel
theorem d_M_takeAway_188 : decode prog_6_method_12_code 188 = .ok (.iadd, 1) := by decide +kernel
theorem d_M_takeAway_189 : decode prog_6_method_12_code 189 = .ok (.iaload, 1) := by decide +kernel
theorem d_M_takeAway_190 : decode prog_6_method_12_code 190 = .ok (.iastore, 1) := by decide +kernel
theorem d_M_takeAway_191 : decode prog_6_method_12_code 191 = .ok (.aload_n 0, 1) := by decide +kernel
theorem d_M_takeAway_192 : decode prog_6_method_12_code 192 = .ok (.getfield 44, 3) := by decide +kernel
theorem d_M_takeAway_195 : decode prog_6_method_12_code 195 = .ok (.iload_n 2, 1) := by decide +kernel
theorem d_M_takeAway_196 : decode prog_6_method_12_code 196 = .ok (.aload_n 0, 1) := by decide +kernel
theorem d_M_takeAway_197 : decode prog_6_method_12_code 197 = .ok (.getfield 44, 3) := by decide +kernel
theorem d_M_takeAway_200 : decode prog_6_method_12_code 200 = .ok (.iload_n 2, 1) := by decide +kernel
theorem d_M_takeAway_201 : decode prog_6_method_12_code 201 = .ok (.iconst 1, 1) := by decide +kernel
theorem d_M_takeAway_202 : decode prog_6_method_12_code 202 = .ok (.iadd, 1) := by decide +kernel
theorem d_M_takeAway_203 : decode prog_6_method_12_code 203 = .ok (.iaload, 1) := by decide +kernel
theorem d_M_takeAway_204 : decode prog_6_method_12_code 204 = .ok (.iastore, 1) := by decide +kernel
theorem d_M_takeAway_205 : decode prog_6_method_12_code 205 = .ok (.iinc 2 1, 3) := by decide +kernel
theorem d_M_takeAway_208 : decode prog_6_method_12_code 208 = .ok (.goto (-179), 3) := by decide +kernel
theorem d_M_takeAway_211 : decode prog_6_method_12_code 211 = .ok (.return_, 1) := by decide +kernel
theorem d_M_retain_0 : decode prog_6_method_16_code 0 = .ok (.aload_n 0, 1) := by decide +kernel
theorem d_M_retain_1 : decode prog_6_method_16_code 1 = .ok (.iload_n 1, 1) := by decide +kernel
theorem d_M_retain_2 : decode prog_6_method_16_code 2 = .ok (.invokevirtual 113, 3) := by decide +kernel
theorem d_M_retain_5 : decode prog_6_method_16_code 5 = .ok (.istore 4, 2) := by decide +kernel
theorem d_M_retain_7 : decode prog_6_method_16_code 7 = .ok (.aload_n 0, 1) := by decide +kernel
theorem d_M_retain_8 : decode prog_6_method_16_code 8 = .ok (.iload 4, 2) := by decide +kernel
theorem d_M_retain_10 : decode prog_6_method_16_code 10 = .ok (.ifCond .ge 7, 3) := by decide +kernel
theorem d_M_retain_13 : decode prog_6_method_16_code 13 = .ok (.iconst 1, 1) := by decide +kernel
theorem d_M_retain_14 : decode prog_6_method_16_code 14 = .ok (.goto 19, 3) := by decide +kernel
theorem d_M_retain_17 : decode prog_6_method_16_code 17 = .ok (.iload_n 2, 1) := by decide +kernel
theorem d_M_retain_18 : decode prog_6_method_16_code 18 = .ok (.ifCond .lt 10, 3) := by decide +kernel
theorem d_M_retain_21 : decode prog_6_method_16_code 21 = .ok (.iload_n 2, 1) := by decide +kernel
theorem d_M_retain_22 : decode prog_6_method_16_code 22 = .ok (.sipush 10000, 3) := by decide +kernel
theorem d_M_retain_25 : decode prog_6_method_16_code 25 = .ok (.if_icmp .le 7, 3) := by decide +kernel
theorem d_M_retain_28 : decode prog_6_method_16_code 28 = .ok (.iconst 2, 1) := by decide +kernel
theorem d_M_retain_29 : decode prog_6_method_16_code 29 = .ok (.goto 4, 3) := by decide +kernel
theorem d_M_retain_32 : decode prog_6_method_16_code 32 = .ok (.iconst 0, 1) := by decide +kernel
theorem d_M_retain_33 : decode prog_6_method_16_code 33 = .ok (.putfield 68, 3) := by decide +kernel
theorem d_M_retain_36 : decode prog_6_method_16_code 36 = .ok (.aload_n 0, 1) := by decide +kernel
theorem d_M_retain_37 : decode prog_6_method_16_code 37 = .ok (.getfield 68, 3) := by decide +kernel
theorem d_M_retain_40 : decode prog_6_method_16_code 40 = .ok (.ifCond .ne 47, 3) := by decide +kernel
theorem d_M_retain_43 : decode prog_6_method_16_code 43 = .ok (.aload_n 0, 1) := by decide +kernel
theorem d_M_retain_44 : decode prog_6_method_16_code 44 = .ok (.iload 4, 2) := by decide +kernel
theorem d_M_retain_46 : decode prog_6_method_16_code 46 = .ok (.invokevirtual 90, 3) := by decide +kernel
theorem d_M_retain_49 : decode prog_6_method_16_code 49 = .ok (.ifCond .eq 38, 3) := by decide +kernel
theorem d_M_retain_52 : decode prog_6_method_16_code 52 = .ok (.aload_n 0, 1) := by decide +kernel
theorem d_M_retain_53 : decode prog_6_method_16_code 53 = .ok (.getfield 34, 3) := by decide +kernel
theorem d_M_retain_56 : decode prog_6_method_16_code 56 = .ok (.iload 4, 2) := by decide +kernel
theorem d_M_retain_58 : decode prog_6_method_16_code 58 = .ok (.baload, 1) := by decide +kernel
theorem d_M_retain_59 : decode prog_6_method_16_code 59 = .ok (.ifCond .eq 28, 3) := by decide +kernel
theorem d_M_retain_62 : decode prog_6_method_16_code 62 = .ok (.iload_n 3, 1) := by decide +kernel
theorem d_M_retain_63 : decode prog_6_method_16_code 63 = .ok (.ifCond .eq 19, 3) := by decide +kernel
theorem d_M_retain_66 : decode prog_6_method_16_code 66 = .ok (.aload_n 0, 1) := by decide +kernel
theorem d_M_retain_67 : decode prog_6_method_16_code 67 = .ok (.getfield 75, 3) := by decide +kernel
theorem d_M_retain_70 : decode prog_6_method_16_code 70 = .ok (.iload_n 2, 1) := by decide +kernel
theorem d_M_retain_71 : decode prog_6_method_16_code 71 = .ok (.iadd, 1) := by decide +kernel
theorem d_M_retain_72 : decode prog_6_method_16_code 72 = .ok (.aload_n 0, 1) := by decide +kernel
theorem d_M_retain_73 : decode prog_6_method_16_code 73 = .ok (.getfield 31, 3) := by decide +kernel
theorem d_M_retain_76 : decode prog_6_method_16_code 76 = .ok (.iload 4, 2) := by decide +kernel
theorem d_M_retain_78 : decode prog_6_method_16_code 78 = .ok (.iaload, 1) := by decide +kernel
theorem d_M_retain_79 : decode prog_6_method_16_code 79 = .ok (.if_icmp .ge 8, 3) := by decide +kernel
theorem d_M_retain_82 : decode prog_6_method_16_code 82 = .ok (.aload_n 0, 1) := by decide +kernel
theorem d_M_retain_83 : decode prog_6_method_16_code 83 = .ok (.iconst 3, 1) := by decide +kernel
theorem d_M_retain_84 : decode prog_6_method_16_code 84 = .ok (.putfield 68, 3) := by decide +kernel
theorem d_M_retain_87 : decode prog_6_method_16_code 87 = .ok (.aload_n 0, 1) := by decide +kernel
theorem d_M_retain_88 : decode prog_6_method_16_code 88 = .ok (.getfield 68, 3) := by decide +kernel
theorem d_M_retain_91 : decode prog_6_method_16_code 91 = .ok (.ifCond .ne 37, 3) := by decide +kernel
theorem d_M_retain_94 : decode prog_6_method_16_code 94 = .ok (.aload_n 0, 1) := by decide +kernel
theorem d_M_retain_95 : decode prog_6_method_16_code 95 = .ok (.getfield 31, 3) := by decide +kernel
theorem d_M_retain_98 : decode prog_6_method_16_code 98 = .ok (.iload 4, 2) := by decide +kernel
theorem d_M_retain_100 : decode prog_6_method_16_code 100 = .ok (.aload_n 0, 1) := by decide +kernel
theorem d_M_retain_101 : decode prog_6_method_16_code 101 = .ok (.getfield 75, 3) := by decide +kernel
theorem d_M_retain_104 : decode prog_6_method_16_code 104 = .ok (.iload_n 2, 1) := by decide +kernel
theorem d_M_retain_105 : decode prog_6_method_16_code 105 = .ok (.iadd, 1) := by decide +kernel
theorem d_M_retain_106 : decode prog_6_method_16_code 106 = .ok (.iastore, 1) := by decide +kernel
theorem d_M_retain_107 : decode prog_6_method_16_code 107 = .ok (.aload_n 0, 1) := by decide +kernel
theorem d_M_retain_108 : decode prog_6_method_16_code 108 = .ok (.getfield 34, 3) := by decide +kernel
theorem d_M_retain_111 : decode prog_6_method_16_code 111 = .ok (.iload 4, 2) := by decide +kernel
theorem d_M_retain_113 : decode prog_6_method_16_code 113 = .ok (.iload_n 3, 1) := by decide +kernel
theorem d_M_retain_114 : decode prog_6_method_16_code 114 = .ok (.bastore, 1) := by decide +kernel
theorem d_M_retain_115 : decode prog_6_method_16_code 115 = .ok (.aload_n 0, 1) := by decide +kernel
theorem d_M_retain_116 : decode prog_6_method_16_code 116 = .ok (.iconst 5, 1) := by decide +kernel
theorem d_M_retain_117 : decode prog_6_method_16_code 117 = .ok (.iload_n 1, 1) := by decide +kernel
theorem d_M_retain_118 : decode prog_6_method_16_code 118 = .ok (.aload_n 0, 1) := by decide +kernel
theorem d_M_retain_119 : decode prog_6_method_16_code 119 = .ok (.getfield 31, 3) := by decide +kernel
theorem d_M_retain_122 : decode prog_6_method_16_code 122 = .ok (.iload 4, 2) := by decide +kernel
theorem d_M_retain_124 : decode prog_6_method_16_code 124 = .ok (.iaload, 1) := by decide +kernel
theorem d_M_retain_125 : decode prog_6_method_16_code 125 = .ok (.invokevirtual 100, 3) := by decide +kernel
theorem d_M_retain_128 : decode prog_6_method_16_code 128 = .ok (.return_, 1) := by decide +kernel
theorem d_M_object_0 : decode prog_6_method_5_code 0 = .ok (.aload_n 0, 1) := by decide +kernel
theorem d_M_object_1 : decode prog_6_method_5_code 1 = .ok (.iload_n 1, 1) := by decide +kernel
theorem d_M_object_2 : decode prog_6_method_5_code 2 = .ok (.invokevirtual 83, 3) := by decide +kernel
theorem d_M_object_5 : decode prog_6_method_5_code 5 = .ok (.istore_n 2, 1) := by decide +kernel
theorem d_M_object_6 : decode prog_6_method_5_code 6 = .ok (.iload_n 2, 1) := by decide +kernel
theorem d_M_object_7 : decode prog_6_method_5_code 7 = .ok (.ifCond .lt 16, 3) := by decide +kernel
theorem d_M_object_10 : decode prog_6_method_5_code 10 = .ok (.aload_n 0, 1) := by decide +kernel
theorem d_M_object_11 : decode prog_6_method_5_code 11 = .ok (.getfield 16, 3) := by decide +kernel
theorem d_M_object_14 : decode prog_6_method_5_code 14 = .ok (.iload_n 2, 1) := by decide +kernel
theorem d_M_object_15 : decode prog_6_method_5_code 15 = .ok (.iaload, 1) := by decide +kernel
theorem d_M_object_16 : decode prog_6_method_5_code 16 = .ok (.ifCond .le 7, 3) := by decide +kernel
theorem d_M_object_19 : decode prog_6_method_5_code 19 = .ok (.iload_n 2, 1) := by decide +kernel
theorem d_M_object_20 : decode prog_6_method_5_code 20 = .ok (.goto 4, 3) := by decide +kernel
theorem d_M_object_23 : decode prog_6_method_5_code 23 = .ok (.iconst (-1), 1) := by decide +kernel
theorem d_M_object_24 : decode prog_6_method_5_code 24 = .ok (.ireturn, 1) := by decide +kernel
theorem d_M_hold_0 : decode prog_6_method_17_code 0 = .ok (.aload_n 0, 1) := by decide +kernel
theorem d_M_hold_1 : decode prog_6_method_17_code 1 = .ok (.iload_n 1, 1) := by decide +kernel
theorem d_M_hold_2 : decode prog_6_method_17_code 2 = .ok (.invokevirtual 113, 3) := by decide +kernel
theorem d_M_hold_5 : decode prog_6_method_17_code 5 = .ok (.istore 4, 2) := by decide +kernel
theorem d_M_hold_7 : decode prog_6_method_17_code 7 = .ok (.aload_n 0, 1) := by decide +kernel
theorem d_M_hold_8 : decode prog_6_method_17_code 8 = .ok (.iload 4, 2) := by decide +kernel
theorem d_M_hold_10 : decode prog_6_method_17_code 10 = .ok (.ifCond .ge 7, 3) := by decide +kernel
theorem d_M_hold_13 : decode prog_6_method_17_code 13 = .ok (.iconst 1, 1) := by decide +kernel
theorem d_M_hold_14 : decode prog_6_method_17_code 14 = .ok (.goto 18, 3) := by decide +kernel
theorem d_M_hold_17 : decode prog_6_method_17_code 17 = .ok (.iload_n 2, 1) := by decide +kernel
theorem d_M_hold_18 : decode prog_6_method_17_code 18 = .ok (.ifCond .lt 9, 3) := by decide +kernel
theorem d_M_hold_21 : decode prog_6_method_17_code 21 = .ok (.iload_n 2, 1) := by decide +kernel
theorem d_M_hold_22 : decode prog_6_method_17_code 22 = .ok (.bipush 7, 2) := by decide +kernel
theorem d_M_hold_24 : decode prog_6_method_17_code 24 = .ok (.if_icmp .le 7, 3) := by decide +kernel
theorem d_M_hold_27 : decode prog_6_method_17_code 27 = .ok (.iconst 2, 1) := by decide +kernel
theorem d_M_hold_28 : decode prog_6_method_17_code 28 = .ok (.goto 4, 3) := by decide +kernel
theorem d_M_hold_31 : decode prog_6_method_17_code 31 = .ok (.iconst 0, 1) := by decide +kernel
theorem d_M_hold_32 : decode prog_6_method_17_code 32 = .ok (.putfield 68, 3) := by decide +kernel
theorem d_M_hold_35 : decode prog_6_method_17_code 35 = .ok (.aload_n 0, 1) := by decide +kernel
theorem d_M_hold_36 : decode prog_6_method_17_code 36 = .ok (.getfield 68, 3) := by decide +kernel
theorem d_M_hold_39 : decode prog_6_method_17_code 39 = .ok (.ifCond .gt 26, 3) := by decide +kernel
theorem d_M_hold_42 : decode prog_6_method_17_code 42 = .ok (.aload_n 0, 1) := by decide +kernel
theorem d_M_hold_43 : decode prog_6_method_17_code 43 = .ok (.getfield 38, 3) := by decide +kernel
theorem d_M_hold_46 : decode prog_6_method_17_code 46 = .ok (.iload 4, 2) := by decide +kernel
theorem d_M_hold_48 : decode prog_6_method_17_code 48 = .ok (.iaload, 1) := by decide +kernel
theorem d_M_hold_49 : decode prog_6_method_17_code 49 = .ok (.iload_n 2, 1) := by decide +kernel
theorem d_M_hold_50 : decode prog_6_method_17_code 50 = .ok (.ishr, 1) := by decide +kernel
theorem d_M_hold_51 : decode prog_6_method_17_code 51 = .ok (.iconst 1, 1) := by decide +kernel
theorem d_M_hold_52 : decode prog_6_method_17_code 52 = .ok (.iand, 1) := by decide +kernel
theorem d_M_hold_53 : decode prog_6_method_17_code 53 = .ok (.iload_n 3, 1) := by decide +kernel
theorem d_M_hold_54 : decode prog_6_method_17_code 54 = .ok (.ifCond .eq 7, 3) := by decide +kernel
theorem d_M_hold_57 : decode prog_6_method_17_code 57 = .ok (.iconst 1, 1) := by decide +kernel
theorem d_M_hold_58 : decode prog_6_method_17_code 58 = .ok (.goto 4, 3) := by decide +kernel
theorem d_M_hold_61 : decode prog_6_method_17_code 61 = .ok (.iconst 0, 1) := by decide +kernel
theorem d_M_hold_62 : decode prog_6_method_17_code 62 = .ok (.if_icmp .ne 5, 3) := by decide +kernel
theorem d_M_hold_65 : decode prog_6_method_17_code 65 = .ok (.iconst 0, 1) := by decide +kernel
theorem d_M_hold_66 : decode prog_6_method_17_code 66 = .ok (.ireturn, 1) := by decide +kernel
theorem d_M_hold_67 : decode prog_6_method_17_code 67 = .ok (.aload_n 0, 1) := by decide +kernel
theorem d_M_hold_68 : decode prog_6_method_17_code 68 = .ok (.getfield 38, 3) := by decide +kernel
theorem d_M_hold_71 : decode prog_6_method_17_code 71 = .ok (.iload 4, 2) := by decide +kernel
theorem d_M_hold_73 : decode prog_6_method_17_code 73 = .ok (.dup2, 1) := by decide +kernel
theorem d_M_hold_74 : decode prog_6_method_17_code 74 = .ok (.iaload, 1) := by decide +kernel
theorem d_M_hold_75 : decode prog_6_method_17_code 75 = .ok (.iconst 1, 1) := by decide +kernel
theorem d_M_hold_76 : decode prog_6_method_17_code 76 = .ok (.iload_n 2, 1) := by decide +kernel
theorem d_M_hold_77 : decode prog_6_method_17_code 77 = .ok (.ishl, 1) := by decide +kernel
theorem d_M_hold_78 : decode prog_6_method_17_code 78 = .ok (.ixor, 1) := by decide +kernel
theorem d_M_hold_79 : decode prog_6_method_17_code 79 = .ok (.iastore, 1) := by decide +kernel
theorem d_M_hold_80 : decode prog_6_method_17_code 80 = .ok (.aload_n 0, 1) := by decide +kernel
theorem d_M_hold_81 : decode prog_6_method_17_code 81 = .ok (.iload_n 3, 1) := by decide +kernel
theorem d_M_hold_82 : decode prog_6_method_17_code 82 = .ok (.ifCond .eq 8, 3) := by decide +kernel
theorem d_M_hold_85 : decode prog_6_method_17_code 85 = .ok (.bipush 6, 2) := by decide +kernel
theorem d_M_hold_87 : decode prog_6_method_17_code 87 = .ok (.goto 5, 3) := by decide +kernel
theorem d_M_hold_90 : decode prog_6_method_17_code 90 = .ok (.bipush 7, 2) := by decide +kernel
theorem d_M_hold_92 : decode prog_6_method_17_code 92 = .ok (.iload_n 1, 1) := by decide +kernel
theorem d_M_hold_93 : decode prog_6_method_17_code 93 = .ok (.iload_n 2, 1) := by decide +kernel
theorem d_M_hold_94 : decode prog_6_method_17_code 94 = .ok (.invokevirtual 100, 3) := by decide +kernel
theorem d_M_hold_97 : decode prog_6_method_17_code 97 = .ok (.iconst 1, 1) := by decide +kernel
theorem d_M_hold_98 : decode prog_6_method_17_code 98 = .ok (.ireturn, 1) := by decide +kernel
theorem d_M_rule_0 : decode prog_6_method_18_code 0 = .ok (.aload_n 0, 1) := by decide +kernel
theorem d_M_rule_1 : decode prog_6_method_18_code 1 = .ok (.iload_n 1, 1) := by decide +kernel
theorem d_M_rule_2 : decode prog_6_method_18_code 2 = .ok (.ifCond .lt 43, 3) := by decide +kernel
theorem d_M_rule_5 : decode prog_6_method_18_code 5 = .ok (.iload_n 1, 1) := by decide +kernel
theorem d_M_rule_6 : decode prog_6_method_18_code 6 = .ok (.iconst 5, 1) := by decide +kernel
theorem d_M_rule_7 : decode prog_6_method_18_code 7 = .ok (.if_icmp .gt 38, 3) := by decide +kernel
theorem d_M_rule_10 : decode prog_6_method_18_code 10 = .ok (.iload_n 2, 1) := by decide +kernel
theorem d_M_rule_11 : decode prog_6_method_18_code 11 = .ok (.iconst (-1), 1) := by decide +kernel
theorem d_M_rule_12 : decode prog_6_method_18_code 12 = .ok (.if_icmp .lt 33, 3) := by decide +kernel
theorem d_M_rule_15 : decode prog_6_method_18_code 15 = .ok (.iload_n 2, 1) := by decide +kernel
theorem d_M_rule_16 : decode prog_6_method_18_code 16 = .ok (.iconst 3, 1) := by decide +kernel
theorem d_M_rule_17 : decode prog_6_method_18_code 17 = .ok (.if_icmp .gt 28, 3) := by decide +kernel
theorem d_M_rule_20 : decode prog_6_method_18_code 20 = .ok (.iload 4, 2) := by decide +kernel
theorem d_M_rule_22 : decode prog_6_method_18_code 22 = .ok (.ifCond .lt 23, 3) := by decide +kernel
theorem d_M_rule_25 : decode prog_6_method_18_code 25 = .ok (.iload 4, 2) := by decide +kernel
theorem d_M_rule_27 : decode prog_6_method_18_code 27 = .ok (.sipush 10000, 3) := by decide +kernel
theorem d_M_rule_30 : decode prog_6_method_18_code 30 = .ok (.if_icmp .gt 15, 3) := by decide +kernel
theorem d_M_rule_33 : decode prog_6_method_18_code 33 = .ok (.iload 5, 2) := by decide +kernel
theorem d_M_rule_35 : decode prog_6_method_18_code 35 = .ok (.iconst 1, 1) := by decide +kernel
theorem d_M_rule_36 : decode prog_6_method_18_code 36 = .ok (.if_icmp .lt 9, 3) := by decide +kernel
theorem d_M_rule_39 : decode prog_6_method_18_code 39 = .ok (.iload 5, 2) := by decide +kernel
theorem d_M_rule_41 : decode prog_6_method_18_code 41 = .ok (.iconst 4, 1) := by decide +kernel
theorem d_M_rule_42 : decode prog_6_method_18_code 42 = .ok (.if_icmp .le 7, 3) := by decide +kernel
theorem d_M_rule_45 : decode prog_6_method_18_code 45 = .ok (.iconst 1, 1) := by decide +kernel
theorem d_M_rule_46 : decode prog_6_method_18_code 46 = .ok (.goto 4, 3) := by decide +kernel
theorem d_M_rule_49 : decode prog_6_method_18_code 49 = .ok (.iconst 0, 1) := by decide +kernel
theorem d_M_rule_50 : decode prog_6_method_18_code 50 = .ok (.putfield 68, 3) := by decide +kernel
theorem d_M_rule_53 : decode prog_6_method_18_code 53 = .ok (.aload_n 0, 1) := by decide +kernel
theorem d_M_rule_54 : decode prog_6_method_18_code 54 = .ok (.getfield 68, 3) := by decide +kernel
theorem d_M_rule_57 : decode prog_6_method_18_code 57 = .ok (.ifCond .ne 42, 3) := by decide +kernel
theorem d_M_rule_60 : decode prog_6_method_18_code 60 = .ok (.aload_n 0, 1) := by decide +kernel
theorem d_M_rule_61 : decode prog_6_method_18_code 61 = .ok (.getfield 47, 3) := by decide +kernel
theorem d_M_rule_64 : decode prog_6_method_18_code 64 = .ok (.iload_n 1, 1) := by decide +kernel
theorem d_M_rule_65 : decode prog_6_method_18_code 65 = .ok (.iload 5, 2) := by decide +kernel
theorem d_M_rule_67 : decode prog_6_method_18_code 67 = .ok (.iastore, 1) := by decide +kernel
theorem d_M_rule_68 : decode prog_6_method_18_code 68 = .ok (.aload_n 0, 1) := by decide +kernel
theorem d_M_rule_69 : decode prog_6_method_18_code 69 = .ok (.getfield 50, 3) := by decide +kernel
theorem d_M_rule_72 : decode prog_6_method_18_code 72 = .ok (.iload_n 1, 1) := by decide +kernel
theorem d_M_rule_73 : decode prog_6_method_18_code 73 = .ok (.iload_n 2, 1) := by decide +kernel
theorem d_M_rule_74 : decode prog_6_method_18_code 74 = .ok (.iastore, 1) := by decide +kernel
theorem d_M_rule_75 : decode prog_6_method_18_code 75 = .ok (.aload_n 0, 1) := by decide +kernel
theorem d_M_rule_76 : decode prog_6_method_18_code 76 = .ok (.getfield 53, 3) := by decide +kernel
theorem d_M_rule_79 : decode prog_6_method_18_code 79 = .ok (.iload_n 1, 1) := by decide +kernel
theorem d_M_rule_80 : decode prog_6_method_18_code 80 = .ok (.iload_n 3, 1) := by decide +kernel
theorem d_M_rule_81 : decode prog_6_method_18_code 81 = .ok (.bastore, 1) := by decide +kernel
theorem d_M_rule_82 : decode prog_6_method_18_code 82 = .ok (.aload_n 0, 1) := by decide +kernel
theorem d_M_rule_83 : decode prog_6_method_18_code 83 = .ok (.getfield 56, 3) := by decide +kernel
theorem d_M_rule_86 : decode prog_6_method_18_code 86 = .ok (.iload_n 1, 1) := by decide +kernel
theorem d_M_rule_87 : decode prog_6_method_18_code 87 = .ok (.iload 4, 2) := by decide +kernel
theorem d_M_rule_89 : decode prog_6_method_18_code 89 = .ok (.iastore, 1) := by decide +kernel
theorem d_M_rule_90 : decode prog_6_method_18_code 90 = .ok (.aload_n 0, 1) := by decide +kernel
theorem d_M_rule_91 : decode prog_6_method_18_code 91 = .ok (.bipush 9, 2) := by decide +kernel
theorem d_M_rule_93 : decode prog_6_method_18_code 93 = .ok (.iload_n 1, 1) := by decide +kernel
theorem d_M_rule_94 : decode prog_6_method_18_code 94 = .ok (.iload 5, 2) := by decide +kernel
theorem d_M_rule_96 : decode prog_6_method_18_code 96 = .ok (.invokevirtual 100, 3) := by decide +kernel
theorem d_M_rule_99 : decode prog_6_method_18_code 99 = .ok (.return_, 1) := by decide +kernel
theorem d_M_unrule_0 : decode prog_6_method_19_code 0 = .ok (.aload_n 0, 1) := by decide +kernel
theorem d_M_unrule_1 : decode prog_6_method_19_code 1 = .ok (.iload_n 1, 1) := by decide +kernel
theorem d_M_unrule_2 : decode prog_6_method_19_code 2 = .ok (.ifCond .lt 8, 3) := by decide +kernel
theorem d_M_unrule_5 : decode prog_6_method_19_code 5 = .ok (.iload_n 1, 1) := by decide +kernel
theorem d_M_unrule_6 : decode prog_6_method_19_code 6 = .ok (.iconst 5, 1) := by decide +kernel
theorem d_M_unrule_7 : decode prog_6_method_19_code 7 = .ok (.if_icmp .le 7, 3) := by decide +kernel
theorem d_M_unrule_10 : decode prog_6_method_19_code 10 = .ok (.iconst 1, 1) := by decide +kernel
theorem d_M_unrule_11 : decode prog_6_method_19_code 11 = .ok (.goto 4, 3) := by decide +kernel
theorem d_M_unrule_14 : decode prog_6_method_19_code 14 = .ok (.iconst 0, 1) := by decide +kernel
theorem d_M_unrule_15 : decode prog_6_method_19_code 15 = .ok (.putfield 68, 3) := by decide +kernel
theorem d_M_unrule_18 : decode prog_6_method_19_code 18 = .ok (.aload_n 0, 1) := by decide +kernel
theorem d_M_unrule_19 : decode prog_6_method_19_code 19 = .ok (.getfield 68, 3) := by decide +kernel
theorem d_M_unrule_22 : decode prog_6_method_19_code 22 = .ok (.ifCond .gt 12, 3) := by decide +kernel
theorem d_M_unrule_25 : decode prog_6_method_19_code 25 = .ok (.aload_n 0, 1) := by decide +kernel
theorem d_M_unrule_26 : decode prog_6_method_19_code 26 = .ok (.getfield 47, 3) := by decide +kernel
theorem d_M_unrule_29 : decode prog_6_method_19_code 29 = .ok (.iload_n 1, 1) := by decide +kernel
theorem d_M_unrule_30 : decode prog_6_method_19_code 30 = .ok (.iaload, 1) := by decide +kernel
theorem d_M_unrule_31 : decode prog_6_method_19_code 31 = .ok (.ifCond .ne 5, 3) := by decide +kernel
theorem d_M_unrule_34 : decode prog_6_method_19_code 34 = .ok (.iconst 0, 1) := by decide +kernel
theorem d_M_unrule_35 : decode prog_6_method_19_code 35 = .ok (.ireturn, 1) := by decide +kernel
theorem d_M_unrule_36 : decode prog_6_method_19_code 36 = .ok (.aload_n 0, 1) := by decide +kernel
theorem d_M_unrule_37 : decode prog_6_method_19_code 37 = .ok (.getfield 47, 3) := by decide +kernel
theorem d_M_unrule_40 : decode prog_6_method_19_code 40 = .ok (.iload_n 1, 1) := by decide +kernel
theorem d_M_unrule_41 : decode prog_6_method_19_code 41 = .ok (.iconst 0, 1) := by decide +kernel
theorem d_M_unrule_42 : decode prog_6_method_19_code 42 = .ok (.iastore, 1) := by decide +kernel
theorem d_M_unrule_43 : decode prog_6_method_19_code 43 = .ok (.aload_n 0, 1) := by decide +kernel
theorem d_M_unrule_44 : decode prog_6_method_19_code 44 = .ok (.bipush 10, 2) := by decide +kernel
theorem d_M_unrule_46 : decode prog_6_method_19_code 46 = .ok (.iload_n 1, 1) := by decide +kernel
theorem d_M_unrule_47 : decode prog_6_method_19_code 47 = .ok (.iconst 0, 1) := by decide +kernel
theorem d_M_unrule_48 : decode prog_6_method_19_code 48 = .ok (.invokevirtual 100, 3) := by decide +kernel
theorem d_M_unrule_51 : decode prog_6_method_19_code 51 = .ok (.iconst 1, 1) := by decide +kernel
theorem d_M_unrule_52 : decode prog_6_method_19_code 52 = .ok (.ireturn, 1) := by decide +kernel
