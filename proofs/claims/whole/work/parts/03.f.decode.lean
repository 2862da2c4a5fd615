theorem d_M_chosen_119 : decode b_M_chosen 119 = .ok (.baload, 1) := by decide +kernel
theorem d_M_chosen_120 : decode b_M_chosen 120 = .ok (.ifCond .ne 5, 3) := by decide +kernel
theorem d_M_chosen_123 : decode b_M_chosen 123 = .ok (.iconst (-1), 1) := by decide +kernel
theorem d_M_chosen_124 : decode b_M_chosen 124 = .ok (.ireturn, 1) := by decide +kernel
theorem d_M_chosen_125 : decode b_M_chosen 125 = .ok (.aload_n 0, 1) := by decide +kernel
theorem d_M_chosen_126 : decode b_M_chosen 126 = .ok (.getfield 60, 3) := by decide +kernel
theorem d_M_chosen_129 : decode b_M_chosen 129 = .ok (.iconst 0, 1) := by decide +kernel
theorem d_M_chosen_130 : decode b_M_chosen 130 = .ok (.baload, 1) := by decide +kernel
theorem d_M_chosen_131 : decode b_M_chosen 131 = .ok (.aload_n 0, 1) := by decide +kernel
theorem d_M_chosen_132 : decode b_M_chosen 132 = .ok (.getfield 60, 3) := by decide +kernel
theorem d_M_chosen_135 : decode b_M_chosen 135 = .ok (.iconst 1, 1) := by decide +kernel
theorem d_M_chosen_136 : decode b_M_chosen 136 = .ok (.baload, 1) := by decide +kernel
theorem d_M_chosen_137 : decode b_M_chosen 137 = .ok (.if_icmp .eq 18, 3) := by decide +kernel
theorem d_M_chosen_140 : decode b_M_chosen 140 = .ok (.aload_n 0, 1) := by decide +kernel
theorem d_M_chosen_141 : decode b_M_chosen 141 = .ok (.getfield 60, 3) := by decide +kernel
theorem d_M_chosen_144 : decode b_M_chosen 144 = .ok (.iconst 0, 1) := by decide +kernel
theorem d_M_chosen_145 : decode b_M_chosen 145 = .ok (.baload, 1) := by decide +kernel
theorem d_M_chosen_146 : decode b_M_chosen 146 = .ok (.ifCond .eq 7, 3) := by decide +kernel
theorem d_M_chosen_149 : decode b_M_chosen 149 = .ok (.iconst 0, 1) := by decide +kernel
theorem d_M_chosen_150 : decode b_M_chosen 150 = .ok (.goto 4, 3) := by decide +kernel
theorem d_M_chosen_153 : decode b_M_chosen 153 = .ok (.iconst 1, 1) := by decide +kernel
theorem d_M_chosen_154 : decode b_M_chosen 154 = .ok (.ireturn, 1) := by decide +kernel
theorem d_M_chosen_155 : decode b_M_chosen 155 = .ok (.aload_n 0, 1) := by decide +kernel
theorem d_M_chosen_156 : decode b_M_chosen 156 = .ok (.getfield 54, 3) := by decide +kernel
theorem d_M_chosen_159 : decode b_M_chosen 159 = .ok (.iconst 0, 1) := by decide +kernel
theorem d_M_chosen_160 : decode b_M_chosen 160 = .ok (.baload, 1) := by decide +kernel
theorem d_M_chosen_161 : decode b_M_chosen 161 = .ok (.ifCond .eq 7, 3) := by decide +kernel
theorem d_M_chosen_164 : decode b_M_chosen 164 = .ok (.iconst 0, 1) := by decide +kernel
theorem d_M_chosen_165 : decode b_M_chosen 165 = .ok (.goto 4, 3) := by decide +kernel
theorem d_M_chosen_168 : decode b_M_chosen 168 = .ok (.iconst 1, 1) := by decide +kernel
theorem d_M_chosen_169 : decode b_M_chosen 169 = .ok (.ireturn, 1) := by decide +kernel
theorem d_M_connect_0 : decode b_M_connect 0 = .ok (.aload_n 0, 1) := by decide +kernel
theorem d_M_connect_1 : decode b_M_connect 1 = .ok (.getfield 57, 3) := by decide +kernel
theorem d_M_connect_4 : decode b_M_connect 4 = .ok (.iconst 0, 1) := by decide +kernel
theorem d_M_connect_5 : decode b_M_connect 5 = .ok (.baload, 1) := by decide +kernel
theorem d_M_connect_6 : decode b_M_connect 6 = .ok (.ifCond .eq 12, 3) := by decide +kernel
theorem d_M_connect_9 : decode b_M_connect 9 = .ok (.aload_n 0, 1) := by decide +kernel
theorem d_M_connect_10 : decode b_M_connect 10 = .ok (.getfield 57, 3) := by decide +kernel
theorem d_M_connect_13 : decode b_M_connect 13 = .ok (.iconst 1, 1) := by decide +kernel
theorem d_M_connect_14 : decode b_M_connect 14 = .ok (.baload, 1) := by decide +kernel
theorem d_M_connect_15 : decode b_M_connect 15 = .ok (.ifCond .ne 6, 3) := by decide +kernel
theorem d_M_connect_18 : decode b_M_connect 18 = .ok (.bipush (-2), 2) := by decide +kernel
theorem d_M_connect_20 : decode b_M_connect 20 = .ok (.ireturn, 1) := by decide +kernel
theorem d_M_connect_21 : decode b_M_connect 21 = .ok (.aload_n 0, 1) := by decide +kernel
theorem d_M_connect_22 : decode b_M_connect 22 = .ok (.getfield 109, 3) := by decide +kernel
theorem d_M_connect_25 : decode b_M_connect 25 = .ok (.ifCond .eq 6, 3) := by decide +kernel
theorem d_M_connect_28 : decode b_M_connect 28 = .ok (.bipush (-9), 2) := by decide +kernel
theorem d_M_connect_30 : decode b_M_connect 30 = .ok (.ireturn, 1) := by decide +kernel
theorem d_M_connect_31 : decode b_M_connect 31 = .ok (.aload_n 0, 1) := by decide +kernel
theorem d_M_connect_32 : decode b_M_connect 32 = .ok (.getfield 60, 3) := by decide +kernel
theorem d_M_connect_35 : decode b_M_connect 35 = .ok (.iconst 0, 1) := by decide +kernel
theorem d_M_connect_36 : decode b_M_connect 36 = .ok (.baload, 1) := by decide +kernel
theorem d_M_connect_37 : decode b_M_connect 37 = .ok (.ifCond .eq 15, 3) := by decide +kernel
theorem d_M_connect_40 : decode b_M_connect 40 = .ok (.aload_n 0, 1) := by decide +kernel
theorem d_M_connect_41 : decode b_M_connect 41 = .ok (.getfield 60, 3) := by decide +kernel
theorem d_M_connect_44 : decode b_M_connect 44 = .ok (.iconst 1, 1) := by decide +kernel
theorem d_M_connect_45 : decode b_M_connect 45 = .ok (.baload, 1) := by decide +kernel
theorem d_M_connect_46 : decode b_M_connect 46 = .ok (.ifCond .eq 6, 3) := by decide +kernel
theorem d_M_connect_49 : decode b_M_connect 49 = .ok (.bipush (-7), 2) := by decide +kernel
theorem d_M_connect_51 : decode b_M_connect 51 = .ok (.ireturn, 1) := by decide +kernel
theorem d_M_connect_52 : decode b_M_connect 52 = .ok (.aload_n 0, 1) := by decide +kernel
theorem d_M_connect_53 : decode b_M_connect 53 = .ok (.invokevirtual 143, 3) := by decide +kernel
theorem d_M_connect_56 : decode b_M_connect 56 = .ok (.istore_n 1, 1) := by decide +kernel
theorem d_M_connect_57 : decode b_M_connect 57 = .ok (.iload_n 1, 1) := by decide +kernel
theorem d_M_connect_58 : decode b_M_connect 58 = .ok (.bipush (-8), 2) := by decide +kernel
theorem d_M_connect_60 : decode b_M_connect 60 = .ok (.if_icmp .ne 6, 3) := by decide +kernel
theorem d_M_connect_63 : decode b_M_connect 63 = .ok (.bipush (-8), 2) := by decide +kernel
theorem d_M_connect_65 : decode b_M_connect 65 = .ok (.ireturn, 1) := by decide +kernel
theorem d_M_connect_66 : decode b_M_connect 66 = .ok (.iload_n 1, 1) := by decide +kernel
theorem d_M_connect_67 : decode b_M_connect 67 = .ok (.ifCond .lt 17, 3) := by decide +kernel
theorem d_M_connect_70 : decode b_M_connect 70 = .ok (.aload_n 0, 1) := by decide +kernel
theorem d_M_connect_71 : decode b_M_connect 71 = .ok (.getfield 60, 3) := by decide +kernel
theorem d_M_connect_74 : decode b_M_connect 74 = .ok (.iconst 1, 1) := by decide +kernel
theorem d_M_connect_75 : decode b_M_connect 75 = .ok (.iload_n 1, 1) := by decide +kernel
theorem d_M_connect_76 : decode b_M_connect 76 = .ok (.isub, 1) := by decide +kernel
theorem d_M_connect_77 : decode b_M_connect 77 = .ok (.baload, 1) := by decide +kernel
theorem d_M_connect_78 : decode b_M_connect 78 = .ok (.ifCond .eq 6, 3) := by decide +kernel
theorem d_M_connect_81 : decode b_M_connect 81 = .ok (.bipush (-10), 2) := by decide +kernel
theorem d_M_connect_83 : decode b_M_connect 83 = .ok (.ireturn, 1) := by decide +kernel
theorem d_M_connect_84 : decode b_M_connect 84 = .ok (.aload_n 0, 1) := by decide +kernel
theorem d_M_connect_85 : decode b_M_connect 85 = .ok (.iconst 1, 1) := by decide +kernel
theorem d_M_connect_86 : decode b_M_connect 86 = .ok (.putfield 109, 3) := by decide +kernel
theorem d_M_connect_89 : decode b_M_connect 89 = .ok (.iload_n 1, 1) := by decide +kernel
theorem d_M_connect_90 : decode b_M_connect 90 = .ok (.ifCond .ge 5, 3) := by decide +kernel
theorem d_M_connect_93 : decode b_M_connect 93 = .ok (.iconst 0, 1) := by decide +kernel
theorem d_M_connect_94 : decode b_M_connect 94 = .ok (.ireturn, 1) := by decide +kernel
theorem d_M_connect_95 : decode b_M_connect 95 = .ok (.iconst 1, 1) := by decide +kernel
theorem d_M_connect_96 : decode b_M_connect 96 = .ok (.iload_n 1, 1) := by decide +kernel
theorem d_M_connect_97 : decode b_M_connect 97 = .ok (.isub, 1) := by decide +kernel
theorem d_M_connect_98 : decode b_M_connect 98 = .ok (.istore_n 2, 1) := by decide +kernel
theorem d_M_connect_99 : decode b_M_connect 99 = .ok (.aload_n 0, 1) := by decide +kernel
theorem d_M_connect_100 : decode b_M_connect 100 = .ok (.getfield 41, 3) := by decide +kernel
theorem d_M_connect_103 : decode b_M_connect 103 = .ok (.iload_n 2, 1) := by decide +kernel
theorem d_M_connect_104 : decode b_M_connect 104 = .ok (.iaload, 1) := by decide +kernel
theorem d_M_connect_105 : decode b_M_connect 105 = .ok (.ifCond .eq 33, 3) := by decide +kernel
theorem d_M_connect_108 : decode b_M_connect 108 = .ok (.aload_n 0, 1) := by decide +kernel
theorem d_M_connect_109 : decode b_M_connect 109 = .ok (.getfield 41, 3) := by decide +kernel
theorem d_M_connect_112 : decode b_M_connect 112 = .ok (.iload_n 2, 1) := by decide +kernel
theorem d_M_connect_113 : decode b_M_connect 113 = .ok (.iaload, 1) := by decide +kernel
theorem d_M_connect_114 : decode b_M_connect 114 = .ok (.aload_n 0, 1) := by decide +kernel
theorem d_M_connect_115 : decode b_M_connect 115 = .ok (.getfield 41, 3) := by decide +kernel
theorem d_M_connect_118 : decode b_M_connect 118 = .ok (.iload_n 1, 1) := by decide +kernel
theorem d_M_connect_119 : decode b_M_connect 119 = .ok (.iaload, 1) := by decide +kernel
theorem d_M_connect_120 : decode b_M_connect 120 = .ok (.if_icmp .eq 22, 3) := by decide +kernel
theorem d_M_connect_123 : decode b_M_connect 123 = .ok (.aload_n 0, 1) := by decide +kernel
theorem d_M_connect_124 : decode b_M_connect 124 = .ok (.getfield 41, 3) := by decide +kernel
theorem d_M_connect_127 : decode b_M_connect 127 = .ok (.iload_n 2, 1) := by decide +kernel
theorem d_M_connect_128 : decode b_M_connect 128 = .ok (.iaload, 1) := by decide +kernel
theorem d_M_connect_129 : decode b_M_connect 129 = .ok (.aload_n 0, 1) := by decide +kernel
theorem d_M_connect_130 : decode b_M_connect 130 = .ok (.getfield 44, 3) := by decide +kernel
theorem d_M_connect_133 : decode b_M_connect 133 = .ok (.iload_n 1, 1) := by decide +kernel
theorem d_M_connect_134 : decode b_M_connect 134 = .ok (.iaload, 1) := by decide +kernel
theorem d_M_connect_135 : decode b_M_connect 135 = .ok (.if_icmp .eq 7, 3) := by decide +kernel
theorem d_M_connect_138 : decode b_M_connect 138 = .ok (.iconst 1, 1) := by decide +kernel
theorem d_M_connect_139 : decode b_M_connect 139 = .ok (.goto 4, 3) := by decide +kernel
theorem d_M_connect_142 : decode b_M_connect 142 = .ok (.iconst 0, 1) := by decide +kernel
theorem d_M_connect_143 : decode b_M_connect 143 = .ok (.istore_n 3, 1) := by decide +kernel
theorem d_M_connect_144 : decode b_M_connect 144 = .ok (.iconst 0, 1) := by decide +kernel
theorem d_M_connect_145 : decode b_M_connect 145 = .ok (.istore 4, 2) := by decide +kernel
theorem d_M_connect_147 : decode b_M_connect 147 = .ok (.iload 4, 2) := by decide +kernel
theorem d_M_connect_149 : decode b_M_connect 149 = .ok (.bipush 32, 2) := by decide +kernel
theorem d_M_connect_151 : decode b_M_connect 151 = .ok (.if_icmp .ge 60, 3) := by decide +kernel
theorem d_M_connect_154 : decode b_M_connect 154 = .ok (.aload_n 0, 1) := by decide +kernel
theorem d_M_connect_155 : decode b_M_connect 155 = .ok (.getfield 32, 3) := by decide +kernel
theorem d_M_connect_158 : decode b_M_connect 158 = .ok (.bipush 32, 2) := by decide +kernel
theorem d_M_connect_160 : decode b_M_connect 160 = .ok (.iload_n 1, 1) := by decide +kernel
theorem d_M_connect_161 : decode b_M_connect 161 = .ok (.imul, 1) := by decide +kernel
theorem d_M_connect_162 : decode b_M_connect 162 = .ok (.iload 4, 2) := by decide +kernel
theorem d_M_connect_164 : decode b_M_connect 164 = .ok (.iadd, 1) := by decide +kernel
theorem d_M_connect_165 : decode b_M_connect 165 = .ok (.iload_n 3, 1) := by decide +kernel
theorem d_M_connect_166 : decode b_M_connect 166 = .ok (.ifCond .ne 33, 3) := by decide +kernel
theorem d_M_connect_169 : decode b_M_connect 169 = .ok (.aload_n 0, 1) := by decide +kernel
theorem d_M_connect_170 : decode b_M_connect 170 = .ok (.getfield 32, 3) := by decide +kernel
theorem d_M_connect_173 : decode b_M_connect 173 = .ok (.bipush 32, 2) := by decide +kernel
theorem d_M_connect_175 : decode b_M_connect 175 = .ok (.iload_n 1, 1) := by decide +kernel
theorem d_M_connect_176 : decode b_M_connect 176 = .ok (.imul, 1) := by decide +kernel
theorem d_M_connect_177 : decode b_M_connect 177 = .ok (.iload 4, 2) := by decide +kernel
theorem d_M_connect_179 : decode b_M_connect 179 = .ok (.iadd, 1) := by decide +kernel
theorem d_M_connect_180 : decode b_M_connect 180 = .ok (.baload, 1) := by decide +kernel
theorem d_M_connect_181 : decode b_M_connect 181 = .ok (.ifCond .ne 18, 3) := by decide +kernel
theorem d_M_connect_184 : decode b_M_connect 184 = .ok (.aload_n 0, 1) := by decide +kernel
theorem d_M_connect_185 : decode b_M_connect 185 = .ok (.getfield 32, 3) := by decide +kernel
theorem d_M_connect_188 : decode b_M_connect 188 = .ok (.bipush 32, 2) := by decide +kernel
theorem d_M_connect_190 : decode b_M_connect 190 = .ok (.iload_n 2, 1) := by decide +kernel
theorem d_M_connect_191 : decode b_M_connect 191 = .ok (.imul, 1) := by decide +kernel
theorem d_M_connect_192 : decode b_M_connect 192 = .ok (.iload 4, 2) := by decide +kernel
theorem d_M_connect_194 : decode b_M_connect 194 = .ok (.iadd, 1) := by decide +kernel
theorem d_M_connect_195 : decode b_M_connect 195 = .ok (.baload, 1) := by decide +kernel
theorem d_M_connect_196 : decode b_M_connect 196 = .ok (.ifCond .eq 7, 3) := by decide +kernel
theorem d_M_connect_199 : decode b_M_connect 199 = .ok (.iconst 1, 1) := by decide +kernel
theorem d_M_connect_200 : decode b_M_connect 200 = .ok (.goto 4, 3) := by decide +kernel
theorem d_M_connect_203 : decode b_M_connect 203 = .ok (.iconst 0, 1) := by decide +kernel
theorem d_M_connect_204 : decode b_M_connect 204 = .ok (.bastore, 1) := by decide +kernel
theorem d_M_connect_205 : decode b_M_connect 205 = .ok (.iinc 4 1, 3) := by decide +kernel
theorem d_M_connect_208 : decode b_M_connect 208 = .ok (.goto (-61), 3) := by decide +kernel
theorem d_M_connect_211 : decode b_M_connect 211 = .ok (.aload_n 0, 1) := by decide +kernel
theorem d_M_connect_212 : decode b_M_connect 212 = .ok (.getfield 63, 3) := by decide +kernel
theorem d_M_connect_215 : decode b_M_connect 215 = .ok (.iload_n 1, 1) := by decide +kernel
theorem d_M_connect_216 : decode b_M_connect 216 = .ok (.iconst 1, 1) := by decide +kernel
theorem d_M_connect_217 : decode b_M_connect 217 = .ok (.bastore, 1) := by decide +kernel
theorem d_M_connect_218 : decode b_M_connect 218 = .ok (.aload_n 0, 1) := by decide +kernel
theorem d_M_connect_219 : decode b_M_connect 219 = .ok (.getfield 66, 3) := by decide +kernel
theorem d_M_connect_222 : decode b_M_connect 222 = .ok (.iload_n 2, 1) := by decide +kernel
theorem d_M_connect_223 : decode b_M_connect 223 = .ok (.iconst 1, 1) := by decide +kernel
theorem d_M_connect_224 : decode b_M_connect 224 = .ok (.bastore, 1) := by decide +kernel
theorem d_M_connect_225 : decode b_M_connect 225 = .ok (.aload_n 0, 1) := by decide +kernel
theorem d_M_connect_226 : decode b_M_connect 226 = .ok (.getfield 51, 3) := by decide +kernel
theorem d_M_connect_229 : decode b_M_connect 229 = .ok (.iload_n 2, 1) := by decide +kernel
theorem d_M_connect_230 : decode b_M_connect 230 = .ok (.iconst 1, 1) := by decide +kernel
theorem d_M_connect_231 : decode b_M_connect 231 = .ok (.bastore, 1) := by decide +kernel
theorem d_M_connect_232 : decode b_M_connect 232 = .ok (.aload_n 0, 1) := by decide +kernel
theorem d_M_connect_233 : decode b_M_connect 233 = .ok (.iload_n 1, 1) := by decide +kernel
theorem d_M_connect_234 : decode b_M_connect 234 = .ok (.invokevirtual 136, 3) := by decide +kernel
theorem d_M_connect_237 : decode b_M_connect 237 = .ok (.iconst 1, 1) := by decide +kernel
theorem d_M_connect_238 : decode b_M_connect 238 = .ok (.iload_n 1, 1) := by decide +kernel
theorem d_M_connect_239 : decode b_M_connect 239 = .ok (.iadd, 1) := by decide +kernel
theorem d_M_connect_240 : decode b_M_connect 240 = .ok (.ireturn, 1) := by decide +kernel
theorem d_M_cut_0 : decode b_M_cut 0 = .ok (.aload_n 0, 1) := by decide +kernel
theorem d_M_cut_1 : decode b_M_cut 1 = .ok (.getfield 109, 3) := by decide +kernel
theorem d_M_cut_4 : decode b_M_cut 4 = .ok (.ifCond .ne 5, 3) := by decide +kernel
theorem d_M_cut_7 : decode b_M_cut 7 = .ok (.iconst 0, 1) := by decide +kernel
theorem d_M_cut_8 : decode b_M_cut 8 = .ok (.ireturn, 1) := by decide +kernel
theorem d_M_cut_9 : decode b_M_cut 9 = .ok (.aload_n 0, 1) := by decide +kernel
theorem d_M_cut_10 : decode b_M_cut 10 = .ok (.invokevirtual 147, 3) := by decide +kernel
theorem d_M_cut_13 : decode b_M_cut 13 = .ok (.iconst 1, 1) := by decide +kernel
theorem d_M_cut_14 : decode b_M_cut 14 = .ok (.ireturn, 1) := by decide +kernel
theorem d_M_crash_0 : decode b_M_crash 0 = .ok (.iload_n 1, 1) := by decide +kernel
theorem d_M_crash_1 : decode b_M_crash 1 = .ok (.invokestatic 117, 3) := by decide +kernel
theorem d_M_crash_4 : decode b_M_crash 4 = .ok (.ifCond .eq 12, 3) := by decide +kernel
theorem d_M_crash_7 : decode b_M_crash 7 = .ok (.aload_n 0, 1) := by decide +kernel
theorem d_M_crash_8 : decode b_M_crash 8 = .ok (.getfield 57, 3) := by decide +kernel
theorem d_M_crash_11 : decode b_M_crash 11 = .ok (.iload_n 1, 1) := by decide +kernel
theorem d_M_crash_12 : decode b_M_crash 12 = .ok (.baload, 1) := by decide +kernel
theorem d_M_crash_13 : decode b_M_crash 13 = .ok (.ifCond .ne 5, 3) := by decide +kernel
theorem d_M_crash_16 : decode b_M_crash 16 = .ok (.iconst 0, 1) := by decide +kernel
theorem d_M_crash_17 : decode b_M_crash 17 = .ok (.ireturn, 1) := by decide +kernel
theorem d_M_crash_18 : decode b_M_crash 18 = .ok (.aload_n 0, 1) := by decide +kernel
theorem d_M_crash_19 : decode b_M_crash 19 = .ok (.getfield 57, 3) := by decide +kernel
theorem d_M_crash_22 : decode b_M_crash 22 = .ok (.iload_n 1, 1) := by decide +kernel
theorem d_M_crash_23 : decode b_M_crash 23 = .ok (.iconst 0, 1) := by decide +kernel
theorem d_M_crash_24 : decode b_M_crash 24 = .ok (.bastore, 1) := by decide +kernel
theorem d_M_crash_25 : decode b_M_crash 25 = .ok (.aload_n 0, 1) := by decide +kernel
theorem d_M_crash_26 : decode b_M_crash 26 = .ok (.iload_n 1, 1) := by decide +kernel
theorem d_M_crash_27 : decode b_M_crash 27 = .ok (.iconst 1, 1) := by decide +kernel
theorem d_M_crash_28 : decode b_M_crash 28 = .ok (.iconst 4, 1) := by decide +kernel
theorem d_M_crash_29 : decode b_M_crash 29 = .ok (.invokevirtual 101, 3) := by decide +kernel
theorem d_M_crash_32 : decode b_M_crash 32 = .ok (.aload_n 0, 1) := by decide +kernel
theorem d_M_crash_33 : decode b_M_crash 33 = .ok (.iload_n 1, 1) := by decide +kernel
theorem d_M_crash_34 : decode b_M_crash 34 = .ok (.iconst 3, 1) := by decide +kernel
theorem d_M_crash_35 : decode b_M_crash 35 = .ok (.iconst 4, 1) := by decide +kernel
theorem d_M_crash_36 : decode b_M_crash 36 = .ok (.invokevirtual 101, 3) := by decide +kernel
theorem d_M_crash_39 : decode b_M_crash 39 = .ok (.aload_n 0, 1) := by decide +kernel
theorem d_M_crash_40 : decode b_M_crash 40 = .ok (.getfield 54, 3) := by decide +kernel
theorem d_M_crash_43 : decode b_M_crash 43 = .ok (.iload_n 1, 1) := by decide +kernel
theorem d_M_crash_44 : decode b_M_crash 44 = .ok (.aload_n 0, 1) := by decide +kernel
theorem d_M_crash_45 : decode b_M_crash 45 = .ok (.getfield 54, 3) := by decide +kernel
theorem d_M_crash_48 : decode b_M_crash 48 = .ok (.iload_n 1, 1) := by decide +kernel
theorem d_M_crash_49 : decode b_M_crash 49 = .ok (.baload, 1) := by decide +kernel
theorem d_M_crash_50 : decode b_M_crash 50 = .ok (.ifCond .ne 12, 3) := by decide +kernel
theorem d_M_crash_53 : decode b_M_crash 53 = .ok (.aload_n 0, 1) := by decide +kernel
theorem d_M_crash_54 : decode b_M_crash 54 = .ok (.getfield 60, 3) := by decide +kernel
theorem d_M_crash_57 : decode b_M_crash 57 = .ok (.iload_n 1, 1) := by decide +kernel
theorem d_M_crash_58 : decode b_M_crash 58 = .ok (.baload, 1) := by decide +kernel
theorem d_M_crash_59 : decode b_M_crash 59 = .ok (.ifCond .eq 7, 3) := by decide +kernel
theorem d_M_crash_62 : decode b_M_crash 62 = .ok (.iconst 1, 1) := by decide +kernel
theorem d_M_crash_63 : decode b_M_crash 63 = .ok (.goto 4, 3) := by decide +kernel
theorem d_M_crash_66 : decode b_M_crash 66 = .ok (.iconst 0, 1) := by decide +kernel
theorem d_M_crash_67 : decode b_M_crash 67 = .ok (.bastore, 1) := by decide +kernel
theorem d_M_crash_68 : decode b_M_crash 68 = .ok (.aload_n 0, 1) := by decide +kernel
theorem d_M_crash_69 : decode b_M_crash 69 = .ok (.getfield 60, 3) := by decide +kernel
theorem d_M_crash_72 : decode b_M_crash 72 = .ok (.iload_n 1, 1) := by decide +kernel
theorem d_M_crash_73 : decode b_M_crash 73 = .ok (.iconst 0, 1) := by decide +kernel
theorem d_M_crash_74 : decode b_M_crash 74 = .ok (.bastore, 1) := by decide +kernel
theorem d_M_crash_75 : decode b_M_crash 75 = .ok (.aload_n 0, 1) := by decide +kernel
theorem d_M_crash_76 : decode b_M_crash 76 = .ok (.getfield 109, 3) := by decide +kernel
theorem d_M_crash_79 : decode b_M_crash 79 = .ok (.ifCond .eq 7, 3) := by decide +kernel
theorem d_M_crash_82 : decode b_M_crash 82 = .ok (.aload_n 0, 1) := by decide +kernel
theorem d_M_crash_83 : decode b_M_crash 83 = .ok (.invokevirtual 147, 3) := by decide +kernel
theorem d_M_crash_86 : decode b_M_crash 86 = .ok (.iconst 1, 1) := by decide +kernel
theorem d_M_crash_87 : decode b_M_crash 87 = .ok (.ireturn, 1) := by decide +kernel
theorem d_M_restart_0 : decode b_M_restart 0 = .ok (.iload_n 1, 1) := by decide +kernel
theorem d_M_restart_1 : decode b_M_restart 1 = .ok (.invokestatic 117, 3) := by decide +kernel
theorem d_M_restart_4 : decode b_M_restart 4 = .ok (.ifCond .eq 12, 3) := by decide +kernel
theorem d_M_restart_7 : decode b_M_restart 7 = .ok (.aload_n 0, 1) := by decide +kernel
theorem d_M_restart_8 : decode b_M_restart 8 = .ok (.getfield 57, 3) := by decide +kernel
theorem d_M_restart_11 : decode b_M_restart 11 = .ok (.iload_n 1, 1) := by decide +kernel
theorem d_M_restart_12 : decode b_M_restart 12 = .ok (.baload, 1) := by decide +kernel
theorem d_M_restart_13 : decode b_M_restart 13 = .ok (.ifCond .eq 5, 3) := by decide +kernel
theorem d_M_restart_16 : decode b_M_restart 16 = .ok (.iconst 0, 1) := by decide +kernel
theorem d_M_restart_17 : decode b_M_restart 17 = .ok (.ireturn, 1) := by decide +kernel
theorem d_M_restart_18 : decode b_M_restart 18 = .ok (.aload_n 0, 1) := by decide +kernel
theorem d_M_restart_19 : decode b_M_restart 19 = .ok (.getfield 57, 3) := by decide +kernel
theorem d_M_restart_22 : decode b_M_restart 22 = .ok (.iload_n 1, 1) := by decide +kernel
theorem d_M_restart_23 : decode b_M_restart 23 = .ok (.iconst 1, 1) := by decide +kernel
theorem d_M_restart_24 : decode b_M_restart 24 = .ok (.bastore, 1) := by decide +kernel
theorem d_M_restart_25 : decode b_M_restart 25 = .ok (.iconst 0, 1) := by decide +kernel
theorem d_M_restart_26 : decode b_M_restart 26 = .ok (.istore_n 2, 1) := by decide +kernel
theorem d_M_restart_27 : decode b_M_restart 27 = .ok (.iload_n 2, 1) := by decide +kernel
theorem d_M_restart_28 : decode b_M_restart 28 = .ok (.bipush 32, 2) := by decide +kernel
theorem d_M_restart_30 : decode b_M_restart 30 = .ok (.if_icmp .ge 46, 3) := by decide +kernel
theorem d_M_restart_33 : decode b_M_restart 33 = .ok (.aload_n 0, 1) := by decide +kernel
theorem d_M_restart_34 : decode b_M_restart 34 = .ok (.getfield 54, 3) := by decide +kernel
theorem d_M_restart_37 : decode b_M_restart 37 = .ok (.iload_n 1, 1) := by decide +kernel
theorem d_M_restart_38 : decode b_M_restart 38 = .ok (.baload, 1) := by decide +kernel
theorem d_M_restart_39 : decode b_M_restart 39 = .ok (.ifCond .eq 31, 3) := by decide +kernel
theorem d_M_restart_42 : decode b_M_restart 42 = .ok (.aload_n 0, 1) := by decide +kernel
theorem d_M_restart_43 : decode b_M_restart 43 = .ok (.getfield 35, 3) := by decide +kernel
theorem d_M_restart_46 : decode b_M_restart 46 = .ok (.bipush 8, 2) := by decide +kernel
theorem d_M_restart_48 : decode b_M_restart 48 = .ok (.iload_n 1, 1) := by decide +kernel
theorem d_M_restart_49 : decode b_M_restart 49 = .ok (.imul, 1) := by decide +kernel
theorem d_M_restart_50 : decode b_M_restart 50 = .ok (.iload_n 2, 1) := by decide +kernel
theorem d_M_restart_51 : decode b_M_restart 51 = .ok (.iconst 4, 1) := by decide +kernel
theorem d_M_restart_52 : decode b_M_restart 52 = .ok (.idiv, 1) := by decide +kernel
theorem d_M_restart_53 : decode b_M_restart 53 = .ok (.iadd, 1) := by decide +kernel
theorem d_M_restart_54 : decode b_M_restart 54 = .ok (.baload, 1) := by decide +kernel
theorem d_M_restart_55 : decode b_M_restart 55 = .ok (.ifCond .eq 15, 3) := by decide +kernel
theorem d_M_restart_58 : decode b_M_restart 58 = .ok (.aload_n 0, 1) := by decide +kernel
theorem d_M_restart_59 : decode b_M_restart 59 = .ok (.getfield 32, 3) := by decide +kernel
theorem d_M_restart_62 : decode b_M_restart 62 = .ok (.bipush 32, 2) := by decide +kernel
theorem d_M_restart_64 : decode b_M_restart 64 = .ok (.iload_n 1, 1) := by decide +kernel
theorem d_M_restart_65 : decode b_M_restart 65 = .ok (.imul, 1) := by decide +kernel
theorem d_M_restart_66 : decode b_M_restart 66 = .ok (.iload_n 2, 1) := by decide +kernel
theorem d_M_restart_67 : decode b_M_restart 67 = .ok (.iadd, 1) := by decide +kernel
theorem d_M_restart_68 : decode b_M_restart 68 = .ok (.iconst 1, 1) := by decide +kernel
theorem d_M_restart_69 : decode b_M_restart 69 = .ok (.bastore, 1) := by decide +kernel
theorem d_M_restart_70 : decode b_M_restart 70 = .ok (.iinc 2 1, 3) := by decide +kernel
theorem d_M_restart_73 : decode b_M_restart 73 = .ok (.goto (-46), 3) := by decide +kernel
theorem d_M_restart_76 : decode b_M_restart 76 = .ok (.iconst 1, 1) := by decide +kernel
theorem d_M_restart_77 : decode b_M_restart 77 = .ok (.ireturn, 1) := by decide +kernel
theorem d_M_promote_0 : decode b_M_promote 0 = .ok (.iload_n 1, 1) := by decide +kernel
theorem d_M_promote_1 : decode b_M_promote 1 = .ok (.invokestatic 117, 3) := by decide +kernel
theorem d_M_promote_4 : decode b_M_promote 4 = .ok (.ifCond .ne 5, 3) := by decide +kernel
theorem d_M_promote_7 : decode b_M_promote 7 = .ok (.iconst (-1), 1) := by decide +kernel
theorem d_M_promote_8 : decode b_M_promote 8 = .ok (.ireturn, 1) := by decide +kernel
theorem d_M_promote_9 : decode b_M_promote 9 = .ok (.aload_n 0, 1) := by decide +kernel
theorem d_M_promote_10 : decode b_M_promote 10 = .ok (.getfield 57, 3) := by decide +kernel
theorem d_M_promote_13 : decode b_M_promote 13 = .ok (.iload_n 1, 1) := by decide +kernel
theorem d_M_promote_14 : decode b_M_promote 14 = .ok (.baload, 1) := by decide +kernel
theorem d_M_promote_15 : decode b_M_promote 15 = .ok (.ifCond .ne 6, 3) := by decide +kernel
theorem d_M_promote_18 : decode b_M_promote 18 = .ok (.bipush (-2), 2) := by decide +kernel
theorem d_M_promote_20 : decode b_M_promote 20 = .ok (.ireturn, 1) := by decide +kernel
theorem d_M_promote_21 : decode b_M_promote 21 = .ok (.aload_n 0, 1) := by decide +kernel
theorem d_M_promote_22 : decode b_M_promote 22 = .ok (.getfield 51, 3) := by decide +kernel
theorem d_M_promote_25 : decode b_M_promote 25 = .ok (.iload_n 1, 1) := by decide +kernel
theorem d_M_promote_26 : decode b_M_promote 26 = .ok (.baload, 1) := by decide +kernel
theorem d_M_promote_27 : decode b_M_promote 27 = .ok (.ifCond .eq 6, 3) := by decide +kernel
theorem d_M_promote_30 : decode b_M_promote 30 = .ok (.bipush (-6), 2) := by decide +kernel
theorem d_M_promote_32 : decode b_M_promote 32 = .ok (.ireturn, 1) := by decide +kernel
theorem d_M_promote_33 : decode b_M_promote 33 = .ok (.aload_n 0, 1) := by decide +kernel
theorem d_M_promote_34 : decode b_M_promote 34 = .ok (.getfield 109, 3) := by decide +kernel
theorem d_M_promote_37 : decode b_M_promote 37 = .ok (.ifCond .eq 17, 3) := by decide +kernel
theorem d_M_promote_40 : decode b_M_promote 40 = .ok (.aload_n 0, 1) := by decide +kernel
theorem d_M_promote_41 : decode b_M_promote 41 = .ok (.getfield 60, 3) := by decide +kernel
theorem d_M_promote_44 : decode b_M_promote 44 = .ok (.iconst 1, 1) := by decide +kernel
theorem d_M_promote_45 : decode b_M_promote 45 = .ok (.iload_n 1, 1) := by decide +kernel
theorem d_M_promote_46 : decode b_M_promote 46 = .ok (.isub, 1) := by decide +kernel
theorem d_M_promote_47 : decode b_M_promote 47 = .ok (.baload, 1) := by decide +kernel
theorem d_M_promote_48 : decode b_M_promote 48 = .ok (.ifCond .eq 6, 3) := by decide +kernel
theorem d_M_promote_51 : decode b_M_promote 51 = .ok (.bipush (-7), 2) := by decide +kernel
theorem d_M_promote_53 : decode b_M_promote 53 = .ok (.ireturn, 1) := by decide +kernel
theorem d_M_promote_54 : decode b_M_promote 54 = .ok (.aload_n 0, 1) := by decide +kernel
theorem d_M_promote_55 : decode b_M_promote 55 = .ok (.getfield 60, 3) := by decide +kernel
theorem d_M_promote_58 : decode b_M_promote 58 = .ok (.iload_n 1, 1) := by decide +kernel
theorem d_M_promote_59 : decode b_M_promote 59 = .ok (.iconst 1, 1) := by decide +kernel
theorem d_M_promote_60 : decode b_M_promote 60 = .ok (.bastore, 1) := by decide +kernel
theorem d_M_promote_61 : decode b_M_promote 61 = .ok (.iconst 0, 1) := by decide +kernel
theorem d_M_promote_62 : decode b_M_promote 62 = .ok (.ireturn, 1) := by decide +kernel
theorem d_M_demote_0 : decode b_M_demote 0 = .ok (.iload_n 1, 1) := by decide +kernel
theorem d_M_demote_1 : decode b_M_demote 1 = .ok (.invokestatic 117, 3) := by decide +kernel
theorem d_M_demote_4 : decode b_M_demote 4 = .ok (.ifCond .ne 5, 3) := by decide +kernel
theorem d_M_demote_7 : decode b_M_demote 7 = .ok (.iconst (-1), 1) := by decide +kernel
theorem d_M_demote_8 : decode b_M_demote 8 = .ok (.ireturn, 1) := by decide +kernel
theorem d_M_demote_9 : decode b_M_demote 9 = .ok (.aload_n 0, 1) := by decide +kernel
theorem d_M_demote_10 : decode b_M_demote 10 = .ok (.getfield 57, 3) := by decide +kernel
theorem d_M_demote_13 : decode b_M_demote 13 = .ok (.iload_n 1, 1) := by decide +kernel
theorem d_M_demote_14 : decode b_M_demote 14 = .ok (.baload, 1) := by decide +kernel
theorem d_M_demote_15 : decode b_M_demote 15 = .ok (.ifCond .ne 6, 3) := by decide +kernel
theorem d_M_demote_18 : decode b_M_demote 18 = .ok (.bipush (-2), 2) := by decide +kernel
theorem d_M_demote_20 : decode b_M_demote 20 = .ok (.ireturn, 1) := by decide +kernel
theorem d_M_demote_21 : decode b_M_demote 21 = .ok (.aload_n 0, 1) := by decide +kernel
theorem d_M_demote_22 : decode b_M_demote 22 = .ok (.getfield 60, 3) := by decide +kernel
theorem d_M_demote_25 : decode b_M_demote 25 = .ok (.iload_n 1, 1) := by decide +kernel
theorem d_M_demote_26 : decode b_M_demote 26 = .ok (.baload, 1) := by decide +kernel
theorem d_M_demote_27 : decode b_M_demote 27 = .ok (.ifCond .ne 6, 3) := by decide +kernel
theorem d_M_demote_30 : decode b_M_demote 30 = .ok (.bipush (-3), 2) := by decide +kernel
theorem d_M_demote_32 : decode b_M_demote 32 = .ok (.ireturn, 1) := by decide +kernel
theorem d_M_demote_33 : decode b_M_demote 33 = .ok (.aload_n 0, 1) := by decide +kernel
theorem d_M_demote_34 : decode b_M_demote 34 = .ok (.iload_n 1, 1) := by decide +kernel
theorem d_M_demote_35 : decode b_M_demote 35 = .ok (.iconst 0, 1) := by decide +kernel
theorem d_M_demote_36 : decode b_M_demote 36 = .ok (.bipush 31, 2) := by decide +kernel
theorem d_M_demote_38 : decode b_M_demote 38 = .ok (.invokevirtual 90, 3) := by decide +kernel
theorem d_M_demote_41 : decode b_M_demote 41 = .ok (.ifCond .le 6, 3) := by decide +kernel
theorem d_M_demote_44 : decode b_M_demote 44 = .ok (.bipush (-5), 2) := by decide +kernel
theorem d_M_demote_46 : decode b_M_demote 46 = .ok (.ireturn, 1) := by decide +kernel
theorem d_M_demote_47 : decode b_M_demote 47 = .ok (.aload_n 0, 1) := by decide +kernel
theorem d_M_demote_48 : decode b_M_demote 48 = .ok (.getfield 60, 3) := by decide +kernel
theorem d_M_demote_51 : decode b_M_demote 51 = .ok (.iload_n 1, 1) := by decide +kernel
theorem d_M_demote_52 : decode b_M_demote 52 = .ok (.iconst 0, 1) := by decide +kernel
theorem d_M_demote_53 : decode b_M_demote 53 = .ok (.bastore, 1) := by decide +kernel
theorem d_M_demote_54 : decode b_M_demote 54 = .ok (.iconst 0, 1) := by decide +kernel
theorem d_M_demote_55 : decode b_M_demote 55 = .ok (.ireturn, 1) := by decide +kernel
theorem d_M_discard_0 : decode b_M_discard 0 = .ok (.iload_n 1, 1) := by decide +kernel
theorem d_M_discard_1 : decode b_M_discard 1 = .ok (.invokestatic 117, 3) := by decide +kernel
theorem d_M_discard_4 : decode b_M_discard 4 = .ok (.ifCond .eq 39, 3) := by decide +kernel
theorem d_M_discard_7 : decode b_M_discard 7 = .ok (.aload_n 0, 1) := by decide +kernel
theorem d_M_discard_8 : decode b_M_discard 8 = .ok (.getfield 57, 3) := by decide +kernel
theorem d_M_discard_11 : decode b_M_discard 11 = .ok (.iload_n 1, 1) := by decide +kernel
theorem d_M_discard_12 : decode b_M_discard 12 = .ok (.baload, 1) := by decide +kernel
theorem d_M_discard_13 : decode b_M_discard 13 = .ok (.ifCond .eq 30, 3) := by decide +kernel
theorem d_M_discard_16 : decode b_M_discard 16 = .ok (.aload_n 0, 1) := by decide +kernel
theorem d_M_discard_17 : decode b_M_discard 17 = .ok (.getfield 60, 3) := by decide +kernel
theorem d_M_discard_20 : decode b_M_discard 20 = .ok (.iload_n 1, 1) := by decide +kernel
theorem d_M_discard_21 : decode b_M_discard 21 = .ok (.baload, 1) := by decide +kernel
theorem d_M_discard_22 : decode b_M_discard 22 = .ok (.ifCond .ne 21, 3) := by decide +kernel
theorem d_M_discard_25 : decode b_M_discard 25 = .ok (.aload_n 0, 1) := by decide +kernel
theorem d_M_discard_26 : decode b_M_discard 26 = .ok (.getfield 109, 3) := by decide +kernel
theorem d_M_discard_29 : decode b_M_discard 29 = .ok (.ifCond .ne 14, 3) := by decide +kernel
theorem d_M_discard_32 : decode b_M_discard 32 = .ok (.aload_n 0, 1) := by decide +kernel
theorem d_M_discard_33 : decode b_M_discard 33 = .ok (.getfield 51, 3) := by decide +kernel
theorem d_M_discard_36 : decode b_M_discard 36 = .ok (.iconst 1, 1) := by decide +kernel
theorem d_M_discard_37 : decode b_M_discard 37 = .ok (.iload_n 1, 1) := by decide +kernel
theorem d_M_discard_38 : decode b_M_discard 38 = .ok (.isub, 1) := by decide +kernel
theorem d_M_discard_39 : decode b_M_discard 39 = .ok (.baload, 1) := by decide +kernel
theorem d_M_discard_40 : decode b_M_discard 40 = .ok (.ifCond .eq 5, 3) := by decide +kernel
theorem d_M_discard_43 : decode b_M_discard 43 = .ok (.iconst 0, 1) := by decide +kernel
theorem d_M_discard_44 : decode b_M_discard 44 = .ok (.ireturn, 1) := by decide +kernel
theorem d_M_discard_45 : decode b_M_discard 45 = .ok (.aload_n 0, 1) := by decide +kernel
theorem d_M_discard_46 : decode b_M_discard 46 = .ok (.getfield 51, 3) := by decide +kernel
theorem d_M_discard_49 : decode b_M_discard 49 = .ok (.iload_n 1, 1) := by decide +kernel
theorem d_M_discard_50 : decode b_M_discard 50 = .ok (.iconst 1, 1) := by decide +kernel
theorem d_M_discard_51 : decode b_M_discard 51 = .ok (.bastore, 1) := by decide +kernel
theorem d_M_discard_52 : decode b_M_discard 52 = .ok (.aload_n 0, 1) := by decide +kernel
theorem d_M_discard_53 : decode b_M_discard 53 = .ok (.getfield 54, 3) := by decide +kernel
theorem d_M_discard_56 : decode b_M_discard 56 = .ok (.iload_n 1, 1) := by decide +kernel
theorem d_M_discard_57 : decode b_M_discard 57 = .ok (.iconst 0, 1) := by decide +kernel
theorem d_M_discard_58 : decode b_M_discard 58 = .ok (.bastore, 1) := by decide +kernel
theorem d_M_discard_59 : decode b_M_discard 59 = .ok (.aload_n 0, 1) := by decide +kernel
theorem d_M_discard_60 : decode b_M_discard 60 = .ok (.getfield 41, 3) := by decide +kernel
theorem d_M_discard_63 : decode b_M_discard 63 = .ok (.iload_n 1, 1) := by decide +kernel
theorem d_M_discard_64 : decode b_M_discard 64 = .ok (.iconst 0, 1) := by decide +kernel
theorem d_M_discard_65 : decode b_M_discard 65 = .ok (.iastore, 1) := by decide +kernel
theorem d_M_discard_66 : decode b_M_discard 66 = .ok (.aload_n 0, 1) := by decide +kernel
theorem d_M_discard_67 : decode b_M_discard 67 = .ok (.getfield 44, 3) := by decide +kernel
theorem d_M_discard_70 : decode b_M_discard 70 = .ok (.iload_n 1, 1) := by decide +kernel
theorem d_M_discard_71 : decode b_M_discard 71 = .ok (.iconst 0, 1) := by decide +kernel
theorem d_M_discard_72 : decode b_M_discard 72 = .ok (.iastore, 1) := by decide +kernel
theorem d_M_discard_73 : decode b_M_discard 73 = .ok (.iconst 0, 1) := by decide +kernel
theorem d_M_discard_74 : decode b_M_discard 74 = .ok (.istore_n 2, 1) := by decide +kernel
theorem d_M_discard_75 : decode b_M_discard 75 = .ok (.iload_n 2, 1) := by decide +kernel
theorem d_M_discard_76 : decode b_M_discard 76 = .ok (.bipush 32, 2) := by decide +kernel
theorem d_M_discard_78 : decode b_M_discard 78 = .ok (.if_icmp .ge 21, 3) := by decide +kernel
theorem d_M_discard_81 : decode b_M_discard 81 = .ok (.aload_n 0, 1) := by decide +kernel
theorem d_M_discard_82 : decode b_M_discard 82 = .ok (.getfield 32, 3) := by decide +kernel
theorem d_M_discard_85 : decode b_M_discard 85 = .ok (.bipush 32, 2) := by decide +kernel
theorem d_M_discard_87 : decode b_M_discard 87 = .ok (.iload_n 1, 1) := by decide +kernel
theorem d_M_discard_88 : decode b_M_discard 88 = .ok (.imul, 1) := by decide +kernel
theorem d_M_discard_89 : decode b_M_discard 89 = .ok (.iload_n 2, 1) := by decide +kernel
theorem d_M_discard_90 : decode b_M_discard 90 = .ok (.iadd, 1) := by decide +kernel
theorem d_M_discard_91 : decode b_M_discard 91 = .ok (.iconst 0, 1) := by decide +kernel
theorem d_M_discard_92 : decode b_M_discard 92 = .ok (.bastore, 1) := by decide +kernel
theorem d_M_discard_93 : decode b_M_discard 93 = .ok (.iinc 2 1, 3) := by decide +kernel
theorem d_M_discard_96 : decode b_M_discard 96 = .ok (.goto (-21), 3) := by decide +kernel
theorem d_M_discard_99 : decode b_M_discard 99 = .ok (.aload_n 0, 1) := by decide +kernel
theorem d_M_discard_100 : decode b_M_discard 100 = .ok (.iload_n 1, 1) := by decide +kernel
theorem d_M_discard_101 : decode b_M_discard 101 = .ok (.iconst 3, 1) := by decide +kernel
theorem d_M_discard_102 : decode b_M_discard 102 = .ok (.iconst 4, 1) := by decide +kernel
theorem d_M_discard_103 : decode b_M_discard 103 = .ok (.invokevirtual 101, 3) := by decide +kernel
theorem d_M_discard_106 : decode b_M_discard 106 = .ok (.iconst 1, 1) := by decide +kernel
theorem d_M_discard_107 : decode b_M_discard 107 = .ok (.ireturn, 1) := by decide +kernel
theorem d_M_disk_0 : decode b_M_disk 0 = .ok (.iload_n 1, 1) := by decide +kernel
theorem d_M_disk_1 : decode b_M_disk 1 = .ok (.invokestatic 117, 3) := by decide +kernel
theorem d_M_disk_4 : decode b_M_disk 4 = .ok (.ifCond .eq 24, 3) := by decide +kernel
theorem d_M_disk_7 : decode b_M_disk 7 = .ok (.iload_n 2, 1) := by decide +kernel
theorem d_M_disk_8 : decode b_M_disk 8 = .ok (.invokestatic 120, 3) := by decide +kernel
theorem d_M_disk_11 : decode b_M_disk 11 = .ok (.ifCond .eq 17, 3) := by decide +kernel
theorem d_M_disk_14 : decode b_M_disk 14 = .ok (.aload_n 0, 1) := by decide +kernel
theorem d_M_disk_15 : decode b_M_disk 15 = .ok (.getfield 29, 3) := by decide +kernel
theorem d_M_disk_18 : decode b_M_disk 18 = .ok (.bipush 32, 2) := by decide +kernel
theorem d_M_disk_20 : decode b_M_disk 20 = .ok (.iload_n 1, 1) := by decide +kernel
theorem d_M_disk_21 : decode b_M_disk 21 = .ok (.imul, 1) := by decide +kernel
theorem d_M_disk_22 : decode b_M_disk 22 = .ok (.iload_n 2, 1) := by decide +kernel
theorem d_M_disk_23 : decode b_M_disk 23 = .ok (.iadd, 1) := by decide +kernel
theorem d_M_disk_24 : decode b_M_disk 24 = .ok (.iaload, 1) := by decide +kernel
theorem d_M_disk_25 : decode b_M_disk 25 = .ok (.goto 4, 3) := by decide +kernel
theorem d_M_disk_28 : decode b_M_disk 28 = .ok (.iconst 0, 1) := by decide +kernel
theorem d_M_disk_29 : decode b_M_disk 29 = .ok (.ireturn, 1) := by decide +kernel
theorem d_M_fate_0 : decode b_M_fate 0 = .ok (.iload_n 1, 1) := by decide +kernel
theorem d_M_fate_1 : decode b_M_fate 1 = .ok (.iconst 1, 1) := by decide +kernel
theorem d_M_fate_2 : decode b_M_fate 2 = .ok (.if_icmp .lt 20, 3) := by decide +kernel
theorem d_M_fate_5 : decode b_M_fate 5 = .ok (.iload_n 1, 1) := by decide +kernel
