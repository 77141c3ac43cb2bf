theorem dX11_reseed_59 : decode cX11_reseed 59 = .ok (.bipush 6, 2) := by decide +kernel
theorem dX11_reseed_61 : decode cX11_reseed 61 = .ok (.ireturn, 1) := by decide +kernel
theorem dX11_reseed_62 : decode cX11_reseed 62 = .ok (.aload_n 0, 1) := by decide +kernel
theorem dX11_reseed_63 : decode cX11_reseed 63 = .ok (.aload_n 3, 1) := by decide +kernel
theorem dX11_reseed_64 : decode cX11_reseed 64 = .ok (.iconst 0, 1) := by decide +kernel
theorem dX11_reseed_65 : decode cX11_reseed 65 = .ok (.aload_n 0, 1) := by decide +kernel
theorem dX11_reseed_66 : decode cX11_reseed 66 = .ok (.getfield 304, 3) := by decide +kernel
theorem dX11_reseed_69 : decode cX11_reseed 69 = .ok (.invokevirtual 327, 3) := by decide +kernel
theorem dX11_reseed_72 : decode cX11_reseed 72 = .ok (.aload_n 0, 1) := by decide +kernel
theorem dX11_reseed_73 : decode cX11_reseed 73 = .ok (.iconst 0, 1) := by decide +kernel
theorem dX11_reseed_74 : decode cX11_reseed 74 = .ok (.putfield 304, 3) := by decide +kernel
theorem dX11_reseed_77 : decode cX11_reseed 77 = .ok (.iconst 0, 1) := by decide +kernel
theorem dX11_reseed_78 : decode cX11_reseed 78 = .ok (.ireturn, 1) := by decide +kernel
theorem dX11_draw_0 : decode cX11_draw 0 = .ok (.aload_n 0, 1) := by decide +kernel
theorem dX11_draw_1 : decode cX11_draw 1 = .ok (.iconst 0, 1) := by decide +kernel
theorem dX11_draw_2 : decode cX11_draw 2 = .ok (.putfield 133, 3) := by decide +kernel
theorem dX11_draw_5 : decode cX11_draw 5 = .ok (.aload_n 0, 1) := by decide +kernel
theorem dX11_draw_6 : decode cX11_draw 6 = .ok (.iload_n 1, 1) := by decide +kernel
theorem dX11_draw_7 : decode cX11_draw 7 = .ok (.invokevirtual 330, 3) := by decide +kernel
theorem dX11_draw_10 : decode cX11_draw 10 = .ok (.ifCond .ne 5, 3) := by decide +kernel
theorem dX11_draw_13 : decode cX11_draw 13 = .ok (.iconst 1, 1) := by decide +kernel
theorem dX11_draw_14 : decode cX11_draw 14 = .ok (.ireturn, 1) := by decide +kernel
theorem dX11_draw_15 : decode cX11_draw 15 = .ok (.iload_n 2, 1) := by decide +kernel
theorem dX11_draw_16 : decode cX11_draw 16 = .ok (.iconst 0, 1) := by decide +kernel
theorem dX11_draw_17 : decode cX11_draw 17 = .ok (.sipush 4096, 3) := by decide +kernel
theorem dX11_draw_20 : decode cX11_draw 20 = .ok (.invokestatic 297, 3) := by decide +kernel
theorem dX11_draw_23 : decode cX11_draw 23 = .ok (.ifCond .ne 5, 3) := by decide +kernel
theorem dX11_draw_26 : decode cX11_draw 26 = .ok (.iconst 2, 1) := by decide +kernel
theorem dX11_draw_27 : decode cX11_draw 27 = .ok (.ireturn, 1) := by decide +kernel
theorem dX11_draw_28 : decode cX11_draw 28 = .ok (.aload_n 0, 1) := by decide +kernel
theorem dX11_draw_29 : decode cX11_draw 29 = .ok (.getfield 92, 3) := by decide +kernel
theorem dX11_draw_32 : decode cX11_draw 32 = .ok (.iload_n 1, 1) := by decide +kernel
theorem dX11_draw_33 : decode cX11_draw 33 = .ok (.aaload, 1) := by decide +kernel
theorem dX11_draw_34 : decode cX11_draw 34 = .ok (.astore 5, 2) := by decide +kernel
theorem dX11_draw_36 : decode cX11_draw 36 = .ok (.iload_n 3, 1) := by decide +kernel
theorem dX11_draw_37 : decode cX11_draw 37 = .ok (.aload 5, 2) := by decide +kernel
theorem dX11_draw_39 : decode cX11_draw 39 = .ok (.getfield 311, 3) := by decide +kernel
theorem dX11_draw_42 : decode cX11_draw 42 = .ok (.if_icmp .le 5, 3) := by decide +kernel
theorem dX11_draw_45 : decode cX11_draw 45 = .ok (.iconst 3, 1) := by decide +kernel
theorem dX11_draw_46 : decode cX11_draw 46 = .ok (.ireturn, 1) := by decide +kernel
theorem dX11_draw_47 : decode cX11_draw 47 = .ok (.aload 5, 2) := by decide +kernel
theorem dX11_draw_49 : decode cX11_draw 49 = .ok (.aload_n 0, 1) := by decide +kernel
theorem dX11_draw_50 : decode cX11_draw 50 = .ok (.getfield 304, 3) := by decide +kernel
theorem dX11_draw_53 : decode cX11_draw 53 = .ok (.invokestatic 314, 3) := by decide +kernel
theorem dX11_draw_56 : decode cX11_draw 56 = .ok (.ifCond .eq 5, 3) := by decide +kernel
theorem dX11_draw_59 : decode cX11_draw 59 = .ok (.iconst 4, 1) := by decide +kernel
theorem dX11_draw_60 : decode cX11_draw 60 = .ok (.ireturn, 1) := by decide +kernel
theorem dX11_draw_61 : decode cX11_draw 61 = .ok (.iload 4, 2) := by decide +kernel
theorem dX11_draw_63 : decode cX11_draw 63 = .ok (.ifCond .eq 13, 3) := by decide +kernel
theorem dX11_draw_66 : decode cX11_draw 66 = .ok (.aload 5, 2) := by decide +kernel
theorem dX11_draw_68 : decode cX11_draw 68 = .ok (.getfield 321, 3) := by decide +kernel
theorem dX11_draw_71 : decode cX11_draw 71 = .ok (.ifCond .ne 5, 3) := by decide +kernel
theorem dX11_draw_74 : decode cX11_draw 74 = .ok (.iconst 5, 1) := by decide +kernel
theorem dX11_draw_75 : decode cX11_draw 75 = .ok (.ireturn, 1) := by decide +kernel
theorem dX11_draw_76 : decode cX11_draw 76 = .ok (.iload 4, 2) := by decide +kernel
theorem dX11_draw_78 : decode cX11_draw 78 = .ok (.ifCond .ne 16, 3) := by decide +kernel
theorem dX11_draw_81 : decode cX11_draw 81 = .ok (.aload 5, 2) := by decide +kernel
theorem dX11_draw_83 : decode cX11_draw 83 = .ok (.getfield 250, 3) := by decide +kernel
theorem dX11_draw_86 : decode cX11_draw 86 = .ok (.aload 5, 2) := by decide +kernel
theorem dX11_draw_88 : decode cX11_draw 88 = .ok (.getfield 318, 3) := by decide +kernel
theorem dX11_draw_91 : decode cX11_draw 91 = .ok (.if_icmp .le 7, 3) := by decide +kernel
theorem dX11_draw_94 : decode cX11_draw 94 = .ok (.iconst 1, 1) := by decide +kernel
theorem dX11_draw_95 : decode cX11_draw 95 = .ok (.goto 4, 3) := by decide +kernel
theorem dX11_draw_98 : decode cX11_draw 98 = .ok (.iconst 0, 1) := by decide +kernel
theorem dX11_draw_99 : decode cX11_draw 99 = .ok (.istore 6, 2) := by decide +kernel
theorem dX11_draw_101 : decode cX11_draw 101 = .ok (.iload 6, 2) := by decide +kernel
theorem dX11_draw_103 : decode cX11_draw 103 = .ok (.ifCond .eq 18, 3) := by decide +kernel
theorem dX11_draw_106 : decode cX11_draw 106 = .ok (.aload 5, 2) := by decide +kernel
theorem dX11_draw_108 : decode cX11_draw 108 = .ok (.invokevirtual 281, 3) := by decide +kernel
theorem dX11_draw_111 : decode cX11_draw 111 = .ok (.aload_n 0, 1) := by decide +kernel
theorem dX11_draw_112 : decode cX11_draw 112 = .ok (.getfield 206, 3) := by decide +kernel
theorem dX11_draw_115 : decode cX11_draw 115 = .ok (.if_icmp .le 6, 3) := by decide +kernel
theorem dX11_draw_118 : decode cX11_draw 118 = .ok (.bipush 6, 2) := by decide +kernel
theorem dX11_draw_120 : decode cX11_draw 120 = .ok (.ireturn, 1) := by decide +kernel
theorem dX11_draw_121 : decode cX11_draw 121 = .ok (.iload 6, 2) := by decide +kernel
theorem dX11_draw_123 : decode cX11_draw 123 = .ok (.ifCond .eq 14, 3) := by decide +kernel
theorem dX11_draw_126 : decode cX11_draw 126 = .ok (.aload_n 0, 1) := by decide +kernel
theorem dX11_draw_127 : decode cX11_draw 127 = .ok (.aload 5, 2) := by decide +kernel
theorem dX11_draw_129 : decode cX11_draw 129 = .ok (.iconst 0, 1) := by decide +kernel
theorem dX11_draw_130 : decode cX11_draw 130 = .ok (.aload_n 0, 1) := by decide +kernel
theorem dX11_draw_131 : decode cX11_draw 131 = .ok (.getfield 304, 3) := by decide +kernel
theorem dX11_draw_134 : decode cX11_draw 134 = .ok (.invokevirtual 327, 3) := by decide +kernel
theorem dX11_draw_137 : decode cX11_draw 137 = .ok (.iload 6, 2) := by decide +kernel
theorem dX11_draw_139 : decode cX11_draw 139 = .ok (.ifCond .eq 7, 3) := by decide +kernel
theorem dX11_draw_142 : decode cX11_draw 142 = .ok (.iconst 0, 1) := by decide +kernel
theorem dX11_draw_143 : decode cX11_draw 143 = .ok (.goto 7, 3) := by decide +kernel
theorem dX11_draw_146 : decode cX11_draw 146 = .ok (.aload_n 0, 1) := by decide +kernel
theorem dX11_draw_147 : decode cX11_draw 147 = .ok (.getfield 304, 3) := by decide +kernel
theorem dX11_draw_150 : decode cX11_draw 150 = .ok (.istore 7, 2) := by decide +kernel
theorem dX11_draw_152 : decode cX11_draw 152 = .ok (.aload 5, 2) := by decide +kernel
theorem dX11_draw_154 : decode cX11_draw 154 = .ok (.getfield 271, 3) := by decide +kernel
theorem dX11_draw_157 : decode cX11_draw 157 = .ok (.iconst 2, 1) := by decide +kernel
theorem dX11_draw_158 : decode cX11_draw 158 = .ok (.if_icmp .ge 15, 3) := by decide +kernel
theorem dX11_draw_161 : decode cX11_draw 161 = .ok (.aload_n 0, 1) := by decide +kernel
theorem dX11_draw_162 : decode cX11_draw 162 = .ok (.aload 5, 2) := by decide +kernel
theorem dX11_draw_164 : decode cX11_draw 164 = .ok (.iload_n 2, 1) := by decide +kernel
theorem dX11_draw_165 : decode cX11_draw 165 = .ok (.iload 7, 2) := by decide +kernel
theorem dX11_draw_167 : decode cX11_draw 167 = .ok (.invokevirtual 333, 3) := by decide +kernel
theorem dX11_draw_170 : decode cX11_draw 170 = .ok (.goto 33, 3) := by decide +kernel
theorem dX11_draw_173 : decode cX11_draw 173 = .ok (.aload 5, 2) := by decide +kernel
theorem dX11_draw_175 : decode cX11_draw 175 = .ok (.getfield 271, 3) := by decide +kernel
theorem dX11_draw_178 : decode cX11_draw 178 = .ok (.iconst 4, 1) := by decide +kernel
theorem dX11_draw_179 : decode cX11_draw 179 = .ok (.if_icmp .ge 15, 3) := by decide +kernel
theorem dX11_draw_182 : decode cX11_draw 182 = .ok (.aload_n 0, 1) := by decide +kernel
theorem dX11_draw_183 : decode cX11_draw 183 = .ok (.aload 5, 2) := by decide +kernel
theorem dX11_draw_185 : decode cX11_draw 185 = .ok (.iload_n 2, 1) := by decide +kernel
theorem dX11_draw_186 : decode cX11_draw 186 = .ok (.iload 7, 2) := by decide +kernel
theorem dX11_draw_188 : decode cX11_draw 188 = .ok (.invokevirtual 336, 3) := by decide +kernel
theorem dX11_draw_191 : decode cX11_draw 191 = .ok (.goto 12, 3) := by decide +kernel
theorem dX11_draw_194 : decode cX11_draw 194 = .ok (.aload_n 0, 1) := by decide +kernel
theorem dX11_draw_195 : decode cX11_draw 195 = .ok (.aload 5, 2) := by decide +kernel
theorem dX11_draw_197 : decode cX11_draw 197 = .ok (.iload_n 2, 1) := by decide +kernel
theorem dX11_draw_198 : decode cX11_draw 198 = .ok (.iload 7, 2) := by decide +kernel
theorem dX11_draw_200 : decode cX11_draw 200 = .ok (.invokevirtual 339, 3) := by decide +kernel
theorem dX11_draw_203 : decode cX11_draw 203 = .ok (.aload 5, 2) := by decide +kernel
theorem dX11_draw_205 : decode cX11_draw 205 = .ok (.dup, 1) := by decide +kernel
theorem dX11_draw_206 : decode cX11_draw 206 = .ok (.getfield 250, 3) := by decide +kernel
theorem dX11_draw_209 : decode cX11_draw 209 = .ok (.iconst 1, 1) := by decide +kernel
theorem dX11_draw_210 : decode cX11_draw 210 = .ok (.iadd, 1) := by decide +kernel
theorem dX11_draw_211 : decode cX11_draw 211 = .ok (.putfield 250, 3) := by decide +kernel
theorem dX11_draw_214 : decode cX11_draw 214 = .ok (.aload 5, 2) := by decide +kernel
theorem dX11_draw_216 : decode cX11_draw 216 = .ok (.dup, 1) := by decide +kernel
theorem dX11_draw_217 : decode cX11_draw 217 = .ok (.getfield 324, 3) := by decide +kernel
theorem dX11_draw_220 : decode cX11_draw 220 = .ok (.iload_n 2, 1) := by decide +kernel
theorem dX11_draw_221 : decode cX11_draw 221 = .ok (.iadd, 1) := by decide +kernel
theorem dX11_draw_222 : decode cX11_draw 222 = .ok (.putfield 324, 3) := by decide +kernel
theorem dX11_draw_225 : decode cX11_draw 225 = .ok (.aload_n 0, 1) := by decide +kernel
theorem dX11_draw_226 : decode cX11_draw 226 = .ok (.iload_n 2, 1) := by decide +kernel
theorem dX11_draw_227 : decode cX11_draw 227 = .ok (.putfield 342, 3) := by decide +kernel
theorem dX11_draw_230 : decode cX11_draw 230 = .ok (.aload_n 0, 1) := by decide +kernel
theorem dX11_draw_231 : decode cX11_draw 231 = .ok (.iconst 0, 1) := by decide +kernel
theorem dX11_draw_232 : decode cX11_draw 232 = .ok (.putfield 304, 3) := by decide +kernel
theorem dX11_draw_235 : decode cX11_draw 235 = .ok (.iconst 0, 1) := by decide +kernel
theorem dX11_draw_236 : decode cX11_draw 236 = .ok (.ireturn, 1) := by decide +kernel
theorem dX11_drawn_0 : decode cX11_drawn 0 = .ok (.aload_n 0, 1) := by decide +kernel
theorem dX11_drawn_1 : decode cX11_drawn 1 = .ok (.iconst 0, 1) := by decide +kernel
theorem dX11_drawn_2 : decode cX11_drawn 2 = .ok (.putfield 133, 3) := by decide +kernel
theorem dX11_drawn_5 : decode cX11_drawn 5 = .ok (.iload_n 1, 1) := by decide +kernel
theorem dX11_drawn_6 : decode cX11_drawn 6 = .ok (.iconst 0, 1) := by decide +kernel
theorem dX11_drawn_7 : decode cX11_drawn 7 = .ok (.aload_n 0, 1) := by decide +kernel
theorem dX11_drawn_8 : decode cX11_drawn 8 = .ok (.getfield 342, 3) := by decide +kernel
theorem dX11_drawn_11 : decode cX11_drawn 11 = .ok (.iconst 1, 1) := by decide +kernel
theorem dX11_drawn_12 : decode cX11_drawn 12 = .ok (.isub, 1) := by decide +kernel
theorem dX11_drawn_13 : decode cX11_drawn 13 = .ok (.invokestatic 297, 3) := by decide +kernel
theorem dX11_drawn_16 : decode cX11_drawn 16 = .ok (.ifCond .eq 12, 3) := by decide +kernel
theorem dX11_drawn_19 : decode cX11_drawn 19 = .ok (.aload_n 0, 1) := by decide +kernel
theorem dX11_drawn_20 : decode cX11_drawn 20 = .ok (.getfield 117, 3) := by decide +kernel
theorem dX11_drawn_23 : decode cX11_drawn 23 = .ok (.iload_n 1, 1) := by decide +kernel
theorem dX11_drawn_24 : decode cX11_drawn 24 = .ok (.iaload, 1) := by decide +kernel
theorem dX11_drawn_25 : decode cX11_drawn 25 = .ok (.goto 4, 3) := by decide +kernel
theorem dX11_drawn_28 : decode cX11_drawn 28 = .ok (.iconst (-1), 1) := by decide +kernel
theorem dX11_drawn_29 : decode cX11_drawn 29 = .ok (.ireturn, 1) := by decide +kernel
theorem dX11_generator_0 : decode cX11_generator 0 = .ok (.aload_n 0, 1) := by decide +kernel
theorem dX11_generator_1 : decode cX11_generator 1 = .ok (.iconst 0, 1) := by decide +kernel
theorem dX11_generator_2 : decode cX11_generator 2 = .ok (.putfield 133, 3) := by decide +kernel
theorem dX11_generator_5 : decode cX11_generator 5 = .ok (.aload_n 0, 1) := by decide +kernel
theorem dX11_generator_6 : decode cX11_generator 6 = .ok (.iload_n 1, 1) := by decide +kernel
theorem dX11_generator_7 : decode cX11_generator 7 = .ok (.invokevirtual 330, 3) := by decide +kernel
theorem dX11_generator_10 : decode cX11_generator 10 = .ok (.ifCond .ne 5, 3) := by decide +kernel
theorem dX11_generator_13 : decode cX11_generator 13 = .ok (.iconst (-1), 1) := by decide +kernel
theorem dX11_generator_14 : decode cX11_generator 14 = .ok (.ireturn, 1) := by decide +kernel
theorem dX11_generator_15 : decode cX11_generator 15 = .ok (.aload_n 0, 1) := by decide +kernel
theorem dX11_generator_16 : decode cX11_generator 16 = .ok (.getfield 92, 3) := by decide +kernel
theorem dX11_generator_19 : decode cX11_generator 19 = .ok (.iload_n 1, 1) := by decide +kernel
theorem dX11_generator_20 : decode cX11_generator 20 = .ok (.aaload, 1) := by decide +kernel
theorem dX11_generator_21 : decode cX11_generator 21 = .ok (.astore_n 3, 1) := by decide +kernel
theorem dX11_generator_22 : decode cX11_generator 22 = .ok (.iload_n 2, 1) := by decide +kernel
theorem dX11_generator_23 : decode cX11_generator 23 = .ok (.tableswitch 93 0 7 #[45, 50, 55, 60, 65, 78, 83, 88], 45) := by decide +kernel
theorem dX11_generator_68 : decode cX11_generator 68 = .ok (.aload_n 3, 1) := by decide +kernel
theorem dX11_generator_69 : decode cX11_generator 69 = .ok (.getfield 271, 3) := by decide +kernel
theorem dX11_generator_72 : decode cX11_generator 72 = .ok (.ireturn, 1) := by decide +kernel
theorem dX11_generator_73 : decode cX11_generator 73 = .ok (.aload_n 3, 1) := by decide +kernel
theorem dX11_generator_74 : decode cX11_generator 74 = .ok (.getfield 311, 3) := by decide +kernel
theorem dX11_generator_77 : decode cX11_generator 77 = .ok (.ireturn, 1) := by decide +kernel
theorem dX11_generator_78 : decode cX11_generator 78 = .ok (.aload_n 3, 1) := by decide +kernel
theorem dX11_generator_79 : decode cX11_generator 79 = .ok (.getfield 250, 3) := by decide +kernel
theorem dX11_generator_82 : decode cX11_generator 82 = .ok (.ireturn, 1) := by decide +kernel
theorem dX11_generator_83 : decode cX11_generator 83 = .ok (.aload_n 3, 1) := by decide +kernel
theorem dX11_generator_84 : decode cX11_generator 84 = .ok (.getfield 318, 3) := by decide +kernel
theorem dX11_generator_87 : decode cX11_generator 87 = .ok (.ireturn, 1) := by decide +kernel
theorem dX11_generator_88 : decode cX11_generator 88 = .ok (.aload_n 3, 1) := by decide +kernel
theorem dX11_generator_89 : decode cX11_generator 89 = .ok (.getfield 321, 3) := by decide +kernel
theorem dX11_generator_92 : decode cX11_generator 92 = .ok (.ifCond .eq 7, 3) := by decide +kernel
theorem dX11_generator_95 : decode cX11_generator 95 = .ok (.iconst 1, 1) := by decide +kernel
theorem dX11_generator_96 : decode cX11_generator 96 = .ok (.goto 4, 3) := by decide +kernel
theorem dX11_generator_99 : decode cX11_generator 99 = .ok (.iconst 0, 1) := by decide +kernel
theorem dX11_generator_100 : decode cX11_generator 100 = .ok (.ireturn, 1) := by decide +kernel
theorem dX11_generator_101 : decode cX11_generator 101 = .ok (.aload_n 3, 1) := by decide +kernel
theorem dX11_generator_102 : decode cX11_generator 102 = .ok (.invokevirtual 229, 3) := by decide +kernel
theorem dX11_generator_105 : decode cX11_generator 105 = .ok (.ireturn, 1) := by decide +kernel
theorem dX11_generator_106 : decode cX11_generator 106 = .ok (.aload_n 3, 1) := by decide +kernel
theorem dX11_generator_107 : decode cX11_generator 107 = .ok (.getfield 324, 3) := by decide +kernel
theorem dX11_generator_110 : decode cX11_generator 110 = .ok (.ireturn, 1) := by decide +kernel
theorem dX11_generator_111 : decode cX11_generator 111 = .ok (.aload_n 3, 1) := by decide +kernel
theorem dX11_generator_112 : decode cX11_generator 112 = .ok (.getfield 294, 3) := by decide +kernel
theorem dX11_generator_115 : decode cX11_generator 115 = .ok (.ireturn, 1) := by decide +kernel
theorem dX11_generator_116 : decode cX11_generator 116 = .ok (.iconst (-1), 1) := by decide +kernel
theorem dX11_generator_117 : decode cX11_generator 117 = .ok (.ireturn, 1) := by decide +kernel
theorem dX11_state_0 : decode cX11_state 0 = .ok (.aload_n 0, 1) := by decide +kernel
theorem dX11_state_1 : decode cX11_state 1 = .ok (.iconst 0, 1) := by decide +kernel
theorem dX11_state_2 : decode cX11_state 2 = .ok (.putfield 133, 3) := by decide +kernel
theorem dX11_state_5 : decode cX11_state 5 = .ok (.aload_n 0, 1) := by decide +kernel
theorem dX11_state_6 : decode cX11_state 6 = .ok (.iload_n 1, 1) := by decide +kernel
theorem dX11_state_7 : decode cX11_state 7 = .ok (.invokevirtual 330, 3) := by decide +kernel
theorem dX11_state_10 : decode cX11_state 10 = .ok (.ifCond .eq 12, 3) := by decide +kernel
theorem dX11_state_13 : decode cX11_state 13 = .ok (.iload_n 2, 1) := by decide +kernel
theorem dX11_state_14 : decode cX11_state 14 = .ok (.iconst 0, 1) := by decide +kernel
theorem dX11_state_15 : decode cX11_state 15 = .ok (.iconst 1, 1) := by decide +kernel
theorem dX11_state_16 : decode cX11_state 16 = .ok (.invokestatic 297, 3) := by decide +kernel
theorem dX11_state_19 : decode cX11_state 19 = .ok (.ifCond .ne 5, 3) := by decide +kernel
theorem dX11_state_22 : decode cX11_state 22 = .ok (.iconst (-1), 1) := by decide +kernel
theorem dX11_state_23 : decode cX11_state 23 = .ok (.ireturn, 1) := by decide +kernel
theorem dX11_state_24 : decode cX11_state 24 = .ok (.aload_n 0, 1) := by decide +kernel
theorem dX11_state_25 : decode cX11_state 25 = .ok (.getfield 92, 3) := by decide +kernel
theorem dX11_state_28 : decode cX11_state 28 = .ok (.iload_n 1, 1) := by decide +kernel
theorem dX11_state_29 : decode cX11_state 29 = .ok (.aaload, 1) := by decide +kernel
theorem dX11_state_30 : decode cX11_state 30 = .ok (.astore 4, 2) := by decide +kernel
theorem dX11_state_32 : decode cX11_state 32 = .ok (.iload_n 3, 1) := by decide +kernel
theorem dX11_state_33 : decode cX11_state 33 = .ok (.iconst 0, 1) := by decide +kernel
theorem dX11_state_34 : decode cX11_state 34 = .ok (.iload_n 2, 1) := by decide +kernel
theorem dX11_state_35 : decode cX11_state 35 = .ok (.ifCond .ne 11, 3) := by decide +kernel
theorem dX11_state_38 : decode cX11_state 38 = .ok (.aload 4, 2) := by decide +kernel
theorem dX11_state_40 : decode cX11_state 40 = .ok (.invokevirtual 345, 3) := by decide +kernel
theorem dX11_state_43 : decode cX11_state 43 = .ok (.goto 8, 3) := by decide +kernel
theorem dX11_state_46 : decode cX11_state 46 = .ok (.aload 4, 2) := by decide +kernel
theorem dX11_state_48 : decode cX11_state 48 = .ok (.invokevirtual 348, 3) := by decide +kernel
theorem dX11_state_51 : decode cX11_state 51 = .ok (.iconst 1, 1) := by decide +kernel
theorem dX11_state_52 : decode cX11_state 52 = .ok (.isub, 1) := by decide +kernel
theorem dX11_state_53 : decode cX11_state 53 = .ok (.invokestatic 297, 3) := by decide +kernel
theorem dX11_state_56 : decode cX11_state 56 = .ok (.ifCond .ne 5, 3) := by decide +kernel
theorem dX11_state_59 : decode cX11_state 59 = .ok (.iconst (-1), 1) := by decide +kernel
theorem dX11_state_60 : decode cX11_state 60 = .ok (.ireturn, 1) := by decide +kernel
theorem dX11_state_61 : decode cX11_state 61 = .ok (.iload_n 2, 1) := by decide +kernel
theorem dX11_state_62 : decode cX11_state 62 = .ok (.ifCond .ne 13, 3) := by decide +kernel
theorem dX11_state_65 : decode cX11_state 65 = .ok (.aload 4, 2) := by decide +kernel
theorem dX11_state_67 : decode cX11_state 67 = .ok (.getfield 226, 3) := by decide +kernel
theorem dX11_state_70 : decode cX11_state 70 = .ok (.iload_n 3, 1) := by decide +kernel
theorem dX11_state_71 : decode cX11_state 71 = .ok (.iaload, 1) := by decide +kernel
theorem dX11_state_72 : decode cX11_state 72 = .ok (.goto 10, 3) := by decide +kernel
theorem dX11_state_75 : decode cX11_state 75 = .ok (.aload 4, 2) := by decide +kernel
theorem dX11_state_77 : decode cX11_state 77 = .ok (.getfield 243, 3) := by decide +kernel
theorem dX11_state_80 : decode cX11_state 80 = .ok (.iload_n 3, 1) := by decide +kernel
theorem dX11_state_81 : decode cX11_state 81 = .ok (.iaload, 1) := by decide +kernel
theorem dX11_state_82 : decode cX11_state 82 = .ok (.ireturn, 1) := by decide +kernel
theorem dX11_show_0 : decode cX11_show 0 = .ok (.iconst 0, 1) := by decide +kernel
theorem dX11_show_1 : decode cX11_show 1 = .ok (.istore_n 2, 1) := by decide +kernel
theorem dX11_show_2 : decode cX11_show 2 = .ok (.iload_n 2, 1) := by decide +kernel
theorem dX11_show_3 : decode cX11_show 3 = .ok (.iload_n 1, 1) := by decide +kernel
theorem dX11_show_4 : decode cX11_show 4 = .ok (.if_icmp .ge 21, 3) := by decide +kernel
theorem dX11_show_7 : decode cX11_show 7 = .ok (.aload_n 0, 1) := by decide +kernel
theorem dX11_show_8 : decode cX11_show 8 = .ok (.getfield 117, 3) := by decide +kernel
theorem dX11_show_11 : decode cX11_show 11 = .ok (.iload_n 2, 1) := by decide +kernel
theorem dX11_show_12 : decode cX11_show 12 = .ok (.aload_n 0, 1) := by decide +kernel
theorem dX11_show_13 : decode cX11_show 13 = .ok (.getfield 38, 3) := by decide +kernel
theorem dX11_show_16 : decode cX11_show 16 = .ok (.iload_n 2, 1) := by decide +kernel
theorem dX11_show_17 : decode cX11_show 17 = .ok (.iaload, 1) := by decide +kernel
theorem dX11_show_18 : decode cX11_show 18 = .ok (.iastore, 1) := by decide +kernel
theorem dX11_show_19 : decode cX11_show 19 = .ok (.iinc 2 1, 3) := by decide +kernel
theorem dX11_show_22 : decode cX11_show 22 = .ok (.goto (-20), 3) := by decide +kernel
theorem dX11_show_25 : decode cX11_show 25 = .ok (.aload_n 0, 1) := by decide +kernel
theorem dX11_show_26 : decode cX11_show 26 = .ok (.iload_n 1, 1) := by decide +kernel
theorem dX11_show_27 : decode cX11_show 27 = .ok (.putfield 342, 3) := by decide +kernel
theorem dX11_show_30 : decode cX11_show 30 = .ok (.return_, 1) := by decide +kernel
theorem dX11_digest__0 : decode cX11_digest_ 0 = .ok (.aload_n 0, 1) := by decide +kernel
theorem dX11_digest__1 : decode cX11_digest_ 1 = .ok (.iconst 0, 1) := by decide +kernel
theorem dX11_digest__2 : decode cX11_digest_ 2 = .ok (.putfield 133, 3) := by decide +kernel
theorem dX11_digest__5 : decode cX11_digest_ 5 = .ok (.aload_n 0, 1) := by decide +kernel
theorem dX11_digest__6 : decode cX11_digest_ 6 = .ok (.iload_n 1, 1) := by decide +kernel
theorem dX11_digest__7 : decode cX11_digest_ 7 = .ok (.aload_n 0, 1) := by decide +kernel
theorem dX11_digest__8 : decode cX11_digest_ 8 = .ok (.getfield 114, 3) := by decide +kernel
theorem dX11_digest__11 : decode cX11_digest_ 11 = .ok (.aload_n 0, 1) := by decide +kernel
theorem dX11_digest__12 : decode cX11_digest_ 12 = .ok (.getfield 304, 3) := by decide +kernel
theorem dX11_digest__15 : decode cX11_digest_ 15 = .ok (.invokevirtual 170, 3) := by decide +kernel
theorem dX11_digest__18 : decode cX11_digest_ 18 = .ok (.aload_n 0, 1) := by decide +kernel
theorem dX11_digest__19 : decode cX11_digest_ 19 = .ok (.iload_n 1, 1) := by decide +kernel
theorem dX11_digest__20 : decode cX11_digest_ 20 = .ok (.invokestatic 166, 3) := by decide +kernel
theorem dX11_digest__23 : decode cX11_digest_ 23 = .ok (.invokevirtual 351, 3) := by decide +kernel
theorem dX11_digest__26 : decode cX11_digest_ 26 = .ok (.aload_n 0, 1) := by decide +kernel
theorem dX11_digest__27 : decode cX11_digest_ 27 = .ok (.getfield 342, 3) := by decide +kernel
theorem dX11_digest__30 : decode cX11_digest_ 30 = .ok (.ireturn, 1) := by decide +kernel
theorem dX11_cipher__0 : decode cX11_cipher_ 0 = .ok (.aload_n 0, 1) := by decide +kernel
theorem dX11_cipher__1 : decode cX11_cipher_ 1 = .ok (.iconst 0, 1) := by decide +kernel
theorem dX11_cipher__2 : decode cX11_cipher_ 2 = .ok (.putfield 133, 3) := by decide +kernel
theorem dX11_cipher__5 : decode cX11_cipher_ 5 = .ok (.iload_n 1, 1) := by decide +kernel
theorem dX11_cipher__6 : decode cX11_cipher_ 6 = .ok (.ifCond .eq 8, 3) := by decide +kernel
theorem dX11_cipher__9 : decode cX11_cipher_ 9 = .ok (.bipush 32, 2) := by decide +kernel
theorem dX11_cipher__11 : decode cX11_cipher_ 11 = .ok (.goto 5, 3) := by decide +kernel
theorem dX11_cipher__14 : decode cX11_cipher_ 14 = .ok (.bipush 16, 2) := by decide +kernel
theorem dX11_cipher__16 : decode cX11_cipher_ 16 = .ok (.istore_n 2, 1) := by decide +kernel
theorem dX11_cipher__17 : decode cX11_cipher_ 17 = .ok (.aload_n 0, 1) := by decide +kernel
theorem dX11_cipher__18 : decode cX11_cipher_ 18 = .ok (.getfield 304, 3) := by decide +kernel
theorem dX11_cipher__21 : decode cX11_cipher_ 21 = .ok (.iload_n 2, 1) := by decide +kernel
theorem dX11_cipher__22 : decode cX11_cipher_ 22 = .ok (.bipush 16, 2) := by decide +kernel
theorem dX11_cipher__24 : decode cX11_cipher_ 24 = .ok (.iadd, 1) := by decide +kernel
theorem dX11_cipher__25 : decode cX11_cipher_ 25 = .ok (.if_icmp .eq 5, 3) := by decide +kernel
theorem dX11_cipher__28 : decode cX11_cipher_ 28 = .ok (.iconst 0, 1) := by decide +kernel
theorem dX11_cipher__29 : decode cX11_cipher_ 29 = .ok (.ireturn, 1) := by decide +kernel
theorem dX11_cipher__30 : decode cX11_cipher_ 30 = .ok (.iconst 0, 1) := by decide +kernel
theorem dX11_cipher__31 : decode cX11_cipher_ 31 = .ok (.istore_n 3, 1) := by decide +kernel
theorem dX11_cipher__32 : decode cX11_cipher_ 32 = .ok (.iload_n 3, 1) := by decide +kernel
theorem dX11_cipher__33 : decode cX11_cipher_ 33 = .ok (.bipush 16, 2) := by decide +kernel
theorem dX11_cipher__35 : decode cX11_cipher_ 35 = .ok (.if_icmp .ge 23, 3) := by decide +kernel
theorem dX11_cipher__38 : decode cX11_cipher_ 38 = .ok (.aload_n 0, 1) := by decide +kernel
theorem dX11_cipher__39 : decode cX11_cipher_ 39 = .ok (.getfield 108, 3) := by decide +kernel
theorem dX11_cipher__42 : decode cX11_cipher_ 42 = .ok (.iload_n 3, 1) := by decide +kernel
theorem dX11_cipher__43 : decode cX11_cipher_ 43 = .ok (.aload_n 0, 1) := by decide +kernel
theorem dX11_cipher__44 : decode cX11_cipher_ 44 = .ok (.getfield 114, 3) := by decide +kernel
theorem dX11_cipher__47 : decode cX11_cipher_ 47 = .ok (.iload_n 2, 1) := by decide +kernel
theorem dX11_cipher__48 : decode cX11_cipher_ 48 = .ok (.iload_n 3, 1) := by decide +kernel
theorem dX11_cipher__49 : decode cX11_cipher_ 49 = .ok (.iadd, 1) := by decide +kernel
theorem dX11_cipher__50 : decode cX11_cipher_ 50 = .ok (.iaload, 1) := by decide +kernel
theorem dX11_cipher__51 : decode cX11_cipher_ 51 = .ok (.iastore, 1) := by decide +kernel
theorem dX11_cipher__52 : decode cX11_cipher_ 52 = .ok (.iinc 3 1, 3) := by decide +kernel
theorem dX11_cipher__55 : decode cX11_cipher_ 55 = .ok (.goto (-23), 3) := by decide +kernel
theorem dX11_cipher__58 : decode cX11_cipher_ 58 = .ok (.aload_n 0, 1) := by decide +kernel
theorem dX11_cipher__59 : decode cX11_cipher_ 59 = .ok (.aload_n 0, 1) := by decide +kernel
theorem dX11_cipher__60 : decode cX11_cipher_ 60 = .ok (.getfield 114, 3) := by decide +kernel
theorem dX11_cipher__63 : decode cX11_cipher_ 63 = .ok (.iload_n 2, 1) := by decide +kernel
theorem dX11_cipher__64 : decode cX11_cipher_ 64 = .ok (.aload_n 0, 1) := by decide +kernel
theorem dX11_cipher__65 : decode cX11_cipher_ 65 = .ok (.getfield 108, 3) := by decide +kernel
theorem dX11_cipher__68 : decode cX11_cipher_ 68 = .ok (.invokevirtual 186, 3) := by decide +kernel
theorem dX11_cipher__71 : decode cX11_cipher_ 71 = .ok (.iconst 0, 1) := by decide +kernel
theorem dX11_cipher__72 : decode cX11_cipher_ 72 = .ok (.istore_n 3, 1) := by decide +kernel
theorem dX11_cipher__73 : decode cX11_cipher_ 73 = .ok (.iload_n 3, 1) := by decide +kernel
theorem dX11_cipher__74 : decode cX11_cipher_ 74 = .ok (.bipush 16, 2) := by decide +kernel
theorem dX11_cipher__76 : decode cX11_cipher_ 76 = .ok (.if_icmp .ge 21, 3) := by decide +kernel
theorem dX11_cipher__79 : decode cX11_cipher_ 79 = .ok (.aload_n 0, 1) := by decide +kernel
theorem dX11_cipher__80 : decode cX11_cipher_ 80 = .ok (.getfield 117, 3) := by decide +kernel
theorem dX11_cipher__83 : decode cX11_cipher_ 83 = .ok (.iload_n 3, 1) := by decide +kernel
theorem dX11_cipher__84 : decode cX11_cipher_ 84 = .ok (.aload_n 0, 1) := by decide +kernel
theorem dX11_cipher__85 : decode cX11_cipher_ 85 = .ok (.getfield 108, 3) := by decide +kernel
theorem dX11_cipher__88 : decode cX11_cipher_ 88 = .ok (.iload_n 3, 1) := by decide +kernel
theorem dX11_cipher__89 : decode cX11_cipher_ 89 = .ok (.iaload, 1) := by decide +kernel
theorem dX11_cipher__90 : decode cX11_cipher_ 90 = .ok (.iastore, 1) := by decide +kernel
theorem dX11_cipher__91 : decode cX11_cipher_ 91 = .ok (.iinc 3 1, 3) := by decide +kernel
theorem dX11_cipher__94 : decode cX11_cipher_ 94 = .ok (.goto (-21), 3) := by decide +kernel
theorem dX11_cipher__97 : decode cX11_cipher_ 97 = .ok (.aload_n 0, 1) := by decide +kernel
theorem dX11_cipher__98 : decode cX11_cipher_ 98 = .ok (.bipush 16, 2) := by decide +kernel
theorem dX11_cipher__100 : decode cX11_cipher_ 100 = .ok (.putfield 342, 3) := by decide +kernel
theorem dX11_cipher__103 : decode cX11_cipher_ 103 = .ok (.iconst 1, 1) := by decide +kernel
theorem dX11_cipher__104 : decode cX11_cipher_ 104 = .ok (.ireturn, 1) := by decide +kernel
theorem dX11_mac__0 : decode cX11_mac_ 0 = .ok (.aload_n 0, 1) := by decide +kernel
theorem dX11_mac__1 : decode cX11_mac_ 1 = .ok (.iconst 0, 1) := by decide +kernel
theorem dX11_mac__2 : decode cX11_mac_ 2 = .ok (.putfield 133, 3) := by decide +kernel
theorem dX11_mac__5 : decode cX11_mac_ 5 = .ok (.iload_n 1, 1) := by decide +kernel
theorem dX11_mac__6 : decode cX11_mac_ 6 = .ok (.invokestatic 166, 3) := by decide +kernel
theorem dX11_mac__9 : decode cX11_mac_ 9 = .ok (.istore_n 2, 1) := by decide +kernel
theorem dX11_mac__10 : decode cX11_mac_ 10 = .ok (.aload_n 0, 1) := by decide +kernel
theorem dX11_mac__11 : decode cX11_mac_ 11 = .ok (.getfield 304, 3) := by decide +kernel
theorem dX11_mac__14 : decode cX11_mac_ 14 = .ok (.iload_n 2, 1) := by decide +kernel
theorem dX11_mac__15 : decode cX11_mac_ 15 = .ok (.if_icmp .ge 5, 3) := by decide +kernel
theorem dX11_mac__18 : decode cX11_mac_ 18 = .ok (.iconst 0, 1) := by decide +kernel
theorem dX11_mac__19 : decode cX11_mac_ 19 = .ok (.ireturn, 1) := by decide +kernel
theorem dX11_mac__20 : decode cX11_mac_ 20 = .ok (.aload_n 0, 1) := by decide +kernel
theorem dX11_mac__21 : decode cX11_mac_ 21 = .ok (.invokevirtual 223, 3) := by decide +kernel
theorem dX11_mac__24 : decode cX11_mac_ 24 = .ok (.iload_n 2, 1) := by decide +kernel
theorem dX11_mac__25 : decode cX11_mac_ 25 = .ok (.istore_n 3, 1) := by decide +kernel
theorem dX11_mac__26 : decode cX11_mac_ 26 = .ok (.iload_n 3, 1) := by decide +kernel
theorem dX11_mac__27 : decode cX11_mac_ 27 = .ok (.aload_n 0, 1) := by decide +kernel
theorem dX11_mac__28 : decode cX11_mac_ 28 = .ok (.getfield 304, 3) := by decide +kernel
theorem dX11_mac__31 : decode cX11_mac_ 31 = .ok (.if_icmp .ge 19, 3) := by decide +kernel
theorem dX11_mac__34 : decode cX11_mac_ 34 = .ok (.aload_n 0, 1) := by decide +kernel
theorem dX11_mac__35 : decode cX11_mac_ 35 = .ok (.aload_n 0, 1) := by decide +kernel
theorem dX11_mac__36 : decode cX11_mac_ 36 = .ok (.getfield 114, 3) := by decide +kernel
theorem dX11_mac__39 : decode cX11_mac_ 39 = .ok (.iload_n 3, 1) := by decide +kernel
theorem dX11_mac__40 : decode cX11_mac_ 40 = .ok (.iaload, 1) := by decide +kernel
theorem dX11_mac__41 : decode cX11_mac_ 41 = .ok (.invokevirtual 215, 3) := by decide +kernel
theorem dX11_mac__44 : decode cX11_mac_ 44 = .ok (.iinc 3 1, 3) := by decide +kernel
theorem dX11_mac__47 : decode cX11_mac_ 47 = .ok (.goto (-21), 3) := by decide +kernel
theorem dX11_mac__50 : decode cX11_mac_ 50 = .ok (.aload_n 0, 1) := by decide +kernel
theorem dX11_mac__51 : decode cX11_mac_ 51 = .ok (.iload_n 1, 1) := by decide +kernel
theorem dX11_mac__52 : decode cX11_mac_ 52 = .ok (.aload_n 0, 1) := by decide +kernel
theorem dX11_mac__53 : decode cX11_mac_ 53 = .ok (.getfield 114, 3) := by decide +kernel
theorem dX11_mac__56 : decode cX11_mac_ 56 = .ok (.aload_n 0, 1) := by decide +kernel
theorem dX11_mac__57 : decode cX11_mac_ 57 = .ok (.getfield 96, 3) := by decide +kernel
theorem dX11_mac__60 : decode cX11_mac_ 60 = .ok (.aload_n 0, 1) := by decide +kernel
theorem dX11_mac__61 : decode cX11_mac_ 61 = .ok (.getfield 212, 3) := by decide +kernel
theorem dX11_mac__64 : decode cX11_mac_ 64 = .ok (.invokevirtual 253, 3) := by decide +kernel
theorem dX11_mac__67 : decode cX11_mac_ 67 = .ok (.aload_n 0, 1) := by decide +kernel
theorem dX11_mac__68 : decode cX11_mac_ 68 = .ok (.iload_n 2, 1) := by decide +kernel
theorem dX11_mac__69 : decode cX11_mac_ 69 = .ok (.invokevirtual 351, 3) := by decide +kernel
theorem dX11_mac__72 : decode cX11_mac_ 72 = .ok (.iconst 1, 1) := by decide +kernel
theorem dX11_mac__73 : decode cX11_mac_ 73 = .ok (.ireturn, 1) := by decide +kernel
theorem dX11_derive__0 : decode cX11_derive_ 0 = .ok (.aload_n 0, 1) := by decide +kernel
theorem dX11_derive__1 : decode cX11_derive_ 1 = .ok (.iconst 0, 1) := by decide +kernel
theorem dX11_derive__2 : decode cX11_derive_ 2 = .ok (.putfield 133, 3) := by decide +kernel
theorem dX11_derive__5 : decode cX11_derive_ 5 = .ok (.iload_n 1, 1) := by decide +kernel
theorem dX11_derive__6 : decode cX11_derive_ 6 = .ok (.iconst 0, 1) := by decide +kernel
theorem dX11_derive__7 : decode cX11_derive_ 7 = .ok (.iconst 3, 1) := by decide +kernel
theorem dX11_derive__8 : decode cX11_derive_ 8 = .ok (.invokestatic 297, 3) := by decide +kernel
theorem dX11_derive__11 : decode cX11_derive_ 11 = .ok (.ifCond .eq 14, 3) := by decide +kernel
theorem dX11_derive__14 : decode cX11_derive_ 14 = .ok (.iload_n 2, 1) := by decide +kernel
theorem dX11_derive__15 : decode cX11_derive_ 15 = .ok (.iconst 1, 1) := by decide +kernel
theorem dX11_derive__16 : decode cX11_derive_ 16 = .ok (.sipush 200, 3) := by decide +kernel
theorem dX11_derive__19 : decode cX11_derive_ 19 = .ok (.invokestatic 297, 3) := by decide +kernel
theorem dX11_derive__22 : decode cX11_derive_ 22 = .ok (.ifCond .ne 5, 3) := by decide +kernel
theorem dX11_derive__25 : decode cX11_derive_ 25 = .ok (.iconst 0, 1) := by decide +kernel
theorem dX11_derive__26 : decode cX11_derive_ 26 = .ok (.ireturn, 1) := by decide +kernel
theorem dX11_derive__27 : decode cX11_derive_ 27 = .ok (.iload_n 1, 1) := by decide +kernel
theorem dX11_derive__28 : decode cX11_derive_ 28 = .ok (.iconst 2, 1) := by decide +kernel
theorem dX11_derive__29 : decode cX11_derive_ 29 = .ok (.if_icmp .ge 33, 3) := by decide +kernel
theorem dX11_derive__32 : decode cX11_derive_ 32 = .ok (.aload_n 0, 1) := by decide +kernel
theorem dX11_derive__33 : decode cX11_derive_ 33 = .ok (.iload_n 1, 1) := by decide +kernel
theorem dX11_derive__34 : decode cX11_derive_ 34 = .ok (.iconst 1, 1) := by decide +kernel
theorem dX11_derive__35 : decode cX11_derive_ 35 = .ok (.if_icmp .ne 7, 3) := by decide +kernel
theorem dX11_derive__38 : decode cX11_derive_ 38 = .ok (.iconst 1, 1) := by decide +kernel
theorem dX11_derive__39 : decode cX11_derive_ 39 = .ok (.goto 4, 3) := by decide +kernel
theorem dX11_derive__42 : decode cX11_derive_ 42 = .ok (.iconst 0, 1) := by decide +kernel
theorem dX11_derive__43 : decode cX11_derive_ 43 = .ok (.aload_n 0, 1) := by decide +kernel
theorem dX11_derive__44 : decode cX11_derive_ 44 = .ok (.getfield 114, 3) := by decide +kernel
theorem dX11_derive__47 : decode cX11_derive_ 47 = .ok (.aload_n 0, 1) := by decide +kernel
theorem dX11_derive__48 : decode cX11_derive_ 48 = .ok (.getfield 304, 3) := by decide +kernel
theorem dX11_derive__51 : decode cX11_derive_ 51 = .ok (.aload_n 0, 1) := by decide +kernel
theorem dX11_derive__52 : decode cX11_derive_ 52 = .ok (.getfield 117, 3) := by decide +kernel
theorem dX11_derive__55 : decode cX11_derive_ 55 = .ok (.iload_n 2, 1) := by decide +kernel
theorem dX11_derive__56 : decode cX11_derive_ 56 = .ok (.invokevirtual 239, 3) := by decide +kernel
theorem dX11_derive__59 : decode cX11_derive_ 59 = .ok (.goto 32, 3) := by decide +kernel
theorem dX11_derive__62 : decode cX11_derive_ 62 = .ok (.aload_n 0, 1) := by decide +kernel
theorem dX11_derive__63 : decode cX11_derive_ 63 = .ok (.iload_n 1, 1) := by decide +kernel
theorem dX11_derive__64 : decode cX11_derive_ 64 = .ok (.iconst 2, 1) := by decide +kernel
theorem dX11_derive__65 : decode cX11_derive_ 65 = .ok (.if_icmp .ne 8, 3) := by decide +kernel
theorem dX11_derive__68 : decode cX11_derive_ 68 = .ok (.bipush 16, 2) := by decide +kernel
theorem dX11_derive__70 : decode cX11_derive_ 70 = .ok (.goto 5, 3) := by decide +kernel
theorem dX11_derive__73 : decode cX11_derive_ 73 = .ok (.bipush 32, 2) := by decide +kernel
theorem dX11_derive__75 : decode cX11_derive_ 75 = .ok (.aload_n 0, 1) := by decide +kernel
theorem dX11_derive__76 : decode cX11_derive_ 76 = .ok (.getfield 114, 3) := by decide +kernel
theorem dX11_derive__79 : decode cX11_derive_ 79 = .ok (.aload_n 0, 1) := by decide +kernel
theorem dX11_derive__80 : decode cX11_derive_ 80 = .ok (.getfield 304, 3) := by decide +kernel
theorem dX11_derive__83 : decode cX11_derive_ 83 = .ok (.aload_n 0, 1) := by decide +kernel
theorem dX11_derive__84 : decode cX11_derive_ 84 = .ok (.getfield 117, 3) := by decide +kernel
theorem dX11_derive__87 : decode cX11_derive_ 87 = .ok (.iload_n 2, 1) := by decide +kernel
theorem dX11_derive__88 : decode cX11_derive_ 88 = .ok (.invokevirtual 274, 3) := by decide +kernel
theorem dX11_derive__91 : decode cX11_derive_ 91 = .ok (.aload_n 0, 1) := by decide +kernel
theorem dX11_derive__92 : decode cX11_derive_ 92 = .ok (.iload_n 2, 1) := by decide +kernel
theorem dX11_derive__93 : decode cX11_derive_ 93 = .ok (.putfield 342, 3) := by decide +kernel
theorem dX11_derive__96 : decode cX11_derive_ 96 = .ok (.iconst 1, 1) := by decide +kernel
theorem dX11_derive__97 : decode cX11_derive_ 97 = .ok (.ireturn, 1) := by decide +kernel
theorem dX11_size_0 : decode cX11_size 0 = .ok (.aload_n 0, 1) := by decide +kernel
theorem dX11_size_1 : decode cX11_size 1 = .ok (.iconst 0, 1) := by decide +kernel
theorem dX11_size_2 : decode cX11_size 2 = .ok (.putfield 133, 3) := by decide +kernel
theorem dX11_size_5 : decode cX11_size 5 = .ok (.aload_n 0, 1) := by decide +kernel
theorem dX11_size_6 : decode cX11_size 6 = .ok (.getfield 342, 3) := by decide +kernel
theorem dX11_size_9 : decode cX11_size 9 = .ok (.ireturn, 1) := by decide +kernel
theorem dL_law_0 : decode cL_law 0 = .ok (.new 7, 3) := by decide +kernel
theorem dL_law_3 : decode cL_law 3 = .ok (.dup, 1) := by decide +kernel
theorem dL_law_4 : decode cL_law 4 = .ok (.invokespecial 9, 3) := by decide +kernel
theorem dL_law_7 : decode cL_law 7 = .ok (.astore_n 1, 1) := by decide +kernel
theorem dL_law_8 : decode cL_law 8 = .ok (.new 10, 3) := by decide +kernel
theorem dL_law_11 : decode cL_law 11 = .ok (.dup, 1) := by decide +kernel
theorem dL_law_12 : decode cL_law 12 = .ok (.invokespecial 12, 3) := by decide +kernel
theorem dL_law_15 : decode cL_law 15 = .ok (.astore_n 2, 1) := by decide +kernel
theorem dL_law_16 : decode cL_law 16 = .ok (.iconst 0, 1) := by decide +kernel
theorem dL_law_17 : decode cL_law 17 = .ok (.istore_n 3, 1) := by decide +kernel
theorem dL_law_18 : decode cL_law 18 = .ok (.iload_n 3, 1) := by decide +kernel
theorem dL_law_19 : decode cL_law 19 = .ok (.aload_n 0, 1) := by decide +kernel
theorem dL_law_20 : decode cL_law 20 = .ok (.arraylength, 1) := by decide +kernel
theorem dL_law_21 : decode cL_law 21 = .ok (.bipush 6, 2) := by decide +kernel
theorem dL_law_23 : decode cL_law 23 = .ok (.isub, 1) := by decide +kernel
theorem dL_law_24 : decode cL_law 24 = .ok (.if_icmp .gt 735, 3) := by decide +kernel
theorem dL_law_27 : decode cL_law 27 = .ok (.aload_n 0, 1) := by decide +kernel
theorem dL_law_28 : decode cL_law 28 = .ok (.iload_n 3, 1) := by decide +kernel
theorem dL_law_29 : decode cL_law 29 = .ok (.iaload, 1) := by decide +kernel
theorem dL_law_30 : decode cL_law 30 = .ok (.bipush 31, 2) := by decide +kernel
theorem dL_law_32 : decode cL_law 32 = .ok (.iand, 1) := by decide +kernel
theorem dL_law_33 : decode cL_law 33 = .ok (.tableswitch 720 0 16 #[83, 146, 169, 182, 225, 248, 317, 340, 389, 458, 481, 514, 557, 596, 635, 674, 707], 83) := by decide +kernel
theorem dL_law_116 : decode cL_law 116 = .ok (.aload_n 1, 1) := by decide +kernel
theorem dL_law_117 : decode cL_law 117 = .ok (.aload_n 0, 1) := by decide +kernel
theorem dL_law_118 : decode cL_law 118 = .ok (.iload_n 3, 1) := by decide +kernel
theorem dL_law_119 : decode cL_law 119 = .ok (.iconst 1, 1) := by decide +kernel
theorem dL_law_120 : decode cL_law 120 = .ok (.iadd, 1) := by decide +kernel
theorem dL_law_121 : decode cL_law 121 = .ok (.iaload, 1) := by decide +kernel
theorem dL_law_122 : decode cL_law 122 = .ok (.aload_n 0, 1) := by decide +kernel
theorem dL_law_123 : decode cL_law 123 = .ok (.iload_n 3, 1) := by decide +kernel
theorem dL_law_124 : decode cL_law 124 = .ok (.iconst 2, 1) := by decide +kernel
theorem dL_law_125 : decode cL_law 125 = .ok (.iadd, 1) := by decide +kernel
theorem dL_law_126 : decode cL_law 126 = .ok (.iaload, 1) := by decide +kernel
theorem dL_law_127 : decode cL_law 127 = .ok (.aload_n 0, 1) := by decide +kernel
theorem dL_law_128 : decode cL_law 128 = .ok (.iload_n 3, 1) := by decide +kernel
theorem dL_law_129 : decode cL_law 129 = .ok (.iconst 3, 1) := by decide +kernel
theorem dL_law_130 : decode cL_law 130 = .ok (.iadd, 1) := by decide +kernel
theorem dL_law_131 : decode cL_law 131 = .ok (.iaload, 1) := by decide +kernel
theorem dL_law_132 : decode cL_law 132 = .ok (.aload_n 0, 1) := by decide +kernel
theorem dL_law_133 : decode cL_law 133 = .ok (.iload_n 3, 1) := by decide +kernel
theorem dL_law_134 : decode cL_law 134 = .ok (.iconst 4, 1) := by decide +kernel
theorem dL_law_135 : decode cL_law 135 = .ok (.iadd, 1) := by decide +kernel
theorem dL_law_136 : decode cL_law 136 = .ok (.iaload, 1) := by decide +kernel
theorem dL_law_137 : decode cL_law 137 = .ok (.aload_n 0, 1) := by decide +kernel
theorem dL_law_138 : decode cL_law 138 = .ok (.iload_n 3, 1) := by decide +kernel
theorem dL_law_139 : decode cL_law 139 = .ok (.iconst 5, 1) := by decide +kernel
theorem dL_law_140 : decode cL_law 140 = .ok (.iadd, 1) := by decide +kernel
theorem dL_law_141 : decode cL_law 141 = .ok (.iaload, 1) := by decide +kernel
theorem dL_law_142 : decode cL_law 142 = .ok (.invokevirtual 13, 3) := by decide +kernel
theorem dL_law_145 : decode cL_law 145 = .ok (.aload_n 2, 1) := by decide +kernel
theorem dL_law_146 : decode cL_law 146 = .ok (.aload_n 0, 1) := by decide +kernel
theorem dL_law_147 : decode cL_law 147 = .ok (.iload_n 3, 1) := by decide +kernel
theorem dL_law_148 : decode cL_law 148 = .ok (.iconst 1, 1) := by decide +kernel
theorem dL_law_149 : decode cL_law 149 = .ok (.iadd, 1) := by decide +kernel
theorem dL_law_150 : decode cL_law 150 = .ok (.iaload, 1) := by decide +kernel
theorem dL_law_151 : decode cL_law 151 = .ok (.aload_n 0, 1) := by decide +kernel
theorem dL_law_152 : decode cL_law 152 = .ok (.iload_n 3, 1) := by decide +kernel
theorem dL_law_153 : decode cL_law 153 = .ok (.iconst 2, 1) := by decide +kernel
theorem dL_law_154 : decode cL_law 154 = .ok (.iadd, 1) := by decide +kernel
theorem dL_law_155 : decode cL_law 155 = .ok (.iaload, 1) := by decide +kernel
theorem dL_law_156 : decode cL_law 156 = .ok (.aload_n 0, 1) := by decide +kernel
theorem dL_law_157 : decode cL_law 157 = .ok (.iload_n 3, 1) := by decide +kernel
theorem dL_law_158 : decode cL_law 158 = .ok (.iconst 3, 1) := by decide +kernel
theorem dL_law_159 : decode cL_law 159 = .ok (.iadd, 1) := by decide +kernel
theorem dL_law_160 : decode cL_law 160 = .ok (.iaload, 1) := by decide +kernel
theorem dL_law_161 : decode cL_law 161 = .ok (.aload_n 0, 1) := by decide +kernel
theorem dL_law_162 : decode cL_law 162 = .ok (.iload_n 3, 1) := by decide +kernel
theorem dL_law_163 : decode cL_law 163 = .ok (.iconst 4, 1) := by decide +kernel
theorem dL_law_164 : decode cL_law 164 = .ok (.iadd, 1) := by decide +kernel
theorem dL_law_165 : decode cL_law 165 = .ok (.iaload, 1) := by decide +kernel
theorem dL_law_166 : decode cL_law 166 = .ok (.aload_n 0, 1) := by decide +kernel
theorem dL_law_167 : decode cL_law 167 = .ok (.iload_n 3, 1) := by decide +kernel
theorem dL_law_168 : decode cL_law 168 = .ok (.iconst 5, 1) := by decide +kernel
theorem dL_law_169 : decode cL_law 169 = .ok (.iadd, 1) := by decide +kernel
theorem dL_law_170 : decode cL_law 170 = .ok (.iaload, 1) := by decide +kernel
theorem dL_law_171 : decode cL_law 171 = .ok (.invokevirtual 17, 3) := by decide +kernel
theorem dL_law_174 : decode cL_law 174 = .ok (.if_icmp .eq 579, 3) := by decide +kernel
theorem dL_law_177 : decode cL_law 177 = .ok (.iconst 0, 1) := by decide +kernel
theorem dL_law_178 : decode cL_law 178 = .ok (.ireturn, 1) := by decide +kernel
theorem dL_law_179 : decode cL_law 179 = .ok (.aload_n 1, 1) := by decide +kernel
theorem dL_law_180 : decode cL_law 180 = .ok (.aload_n 0, 1) := by decide +kernel
theorem dL_law_181 : decode cL_law 181 = .ok (.iload_n 3, 1) := by decide +kernel
theorem dL_law_182 : decode cL_law 182 = .ok (.iconst 1, 1) := by decide +kernel
theorem dL_law_183 : decode cL_law 183 = .ok (.iadd, 1) := by decide +kernel
theorem dL_law_184 : decode cL_law 184 = .ok (.iaload, 1) := by decide +kernel
theorem dL_law_185 : decode cL_law 185 = .ok (.invokevirtual 18, 3) := by decide +kernel
theorem dL_law_188 : decode cL_law 188 = .ok (.aload_n 2, 1) := by decide +kernel
theorem dL_law_189 : decode cL_law 189 = .ok (.aload_n 0, 1) := by decide +kernel
theorem dL_law_190 : decode cL_law 190 = .ok (.iload_n 3, 1) := by decide +kernel
theorem dL_law_191 : decode cL_law 191 = .ok (.iconst 1, 1) := by decide +kernel
theorem dL_law_192 : decode cL_law 192 = .ok (.iadd, 1) := by decide +kernel
theorem dL_law_193 : decode cL_law 193 = .ok (.iaload, 1) := by decide +kernel
theorem dL_law_194 : decode cL_law 194 = .ok (.invokevirtual 22, 3) := by decide +kernel
theorem dL_law_197 : decode cL_law 197 = .ok (.if_icmp .eq 556, 3) := by decide +kernel
theorem dL_law_200 : decode cL_law 200 = .ok (.iconst 0, 1) := by decide +kernel
theorem dL_law_201 : decode cL_law 201 = .ok (.ireturn, 1) := by decide +kernel
theorem dL_law_202 : decode cL_law 202 = .ok (.aload_n 1, 1) := by decide +kernel
theorem dL_law_203 : decode cL_law 203 = .ok (.invokevirtual 23, 3) := by decide +kernel
theorem dL_law_206 : decode cL_law 206 = .ok (.aload_n 2, 1) := by decide +kernel
theorem dL_law_207 : decode cL_law 207 = .ok (.invokevirtual 27, 3) := by decide +kernel
theorem dL_law_210 : decode cL_law 210 = .ok (.if_icmp .eq 543, 3) := by decide +kernel
theorem dL_law_213 : decode cL_law 213 = .ok (.iconst 0, 1) := by decide +kernel
theorem dL_law_214 : decode cL_law 214 = .ok (.ireturn, 1) := by decide +kernel
theorem dL_law_215 : decode cL_law 215 = .ok (.aload_n 1, 1) := by decide +kernel
theorem dL_law_216 : decode cL_law 216 = .ok (.aload_n 0, 1) := by decide +kernel
theorem dL_law_217 : decode cL_law 217 = .ok (.iload_n 3, 1) := by decide +kernel
theorem dL_law_218 : decode cL_law 218 = .ok (.iconst 1, 1) := by decide +kernel
theorem dL_law_219 : decode cL_law 219 = .ok (.iadd, 1) := by decide +kernel
theorem dL_law_220 : decode cL_law 220 = .ok (.iaload, 1) := by decide +kernel
theorem dL_law_221 : decode cL_law 221 = .ok (.aload_n 0, 1) := by decide +kernel
theorem dL_law_222 : decode cL_law 222 = .ok (.iload_n 3, 1) := by decide +kernel
theorem dL_law_223 : decode cL_law 223 = .ok (.iconst 2, 1) := by decide +kernel
theorem dL_law_224 : decode cL_law 224 = .ok (.iadd, 1) := by decide +kernel
theorem dL_law_225 : decode cL_law 225 = .ok (.iaload, 1) := by decide +kernel
theorem dL_law_226 : decode cL_law 226 = .ok (.aload_n 0, 1) := by decide +kernel
theorem dL_law_227 : decode cL_law 227 = .ok (.iload_n 3, 1) := by decide +kernel
theorem dL_law_228 : decode cL_law 228 = .ok (.iconst 3, 1) := by decide +kernel
theorem dL_law_229 : decode cL_law 229 = .ok (.iadd, 1) := by decide +kernel
theorem dL_law_230 : decode cL_law 230 = .ok (.iaload, 1) := by decide +kernel
theorem dL_law_231 : decode cL_law 231 = .ok (.invokevirtual 28, 3) := by decide +kernel
theorem dL_law_234 : decode cL_law 234 = .ok (.aload_n 2, 1) := by decide +kernel
theorem dL_law_235 : decode cL_law 235 = .ok (.aload_n 0, 1) := by decide +kernel
theorem dL_law_236 : decode cL_law 236 = .ok (.iload_n 3, 1) := by decide +kernel
theorem dL_law_237 : decode cL_law 237 = .ok (.iconst 1, 1) := by decide +kernel
theorem dL_law_238 : decode cL_law 238 = .ok (.iadd, 1) := by decide +kernel
theorem dL_law_239 : decode cL_law 239 = .ok (.iaload, 1) := by decide +kernel
theorem dL_law_240 : decode cL_law 240 = .ok (.aload_n 0, 1) := by decide +kernel
theorem dL_law_241 : decode cL_law 241 = .ok (.iload_n 3, 1) := by decide +kernel
theorem dL_law_242 : decode cL_law 242 = .ok (.iconst 2, 1) := by decide +kernel
theorem dL_law_243 : decode cL_law 243 = .ok (.iadd, 1) := by decide +kernel
theorem dL_law_244 : decode cL_law 244 = .ok (.iaload, 1) := by decide +kernel
theorem dL_law_245 : decode cL_law 245 = .ok (.aload_n 0, 1) := by decide +kernel
theorem dL_law_246 : decode cL_law 246 = .ok (.iload_n 3, 1) := by decide +kernel
theorem dL_law_247 : decode cL_law 247 = .ok (.iconst 3, 1) := by decide +kernel
theorem dL_law_248 : decode cL_law 248 = .ok (.iadd, 1) := by decide +kernel
theorem dL_law_249 : decode cL_law 249 = .ok (.iaload, 1) := by decide +kernel
theorem dL_law_250 : decode cL_law 250 = .ok (.invokevirtual 32, 3) := by decide +kernel
theorem dL_law_253 : decode cL_law 253 = .ok (.if_icmp .eq 500, 3) := by decide +kernel
theorem dL_law_256 : decode cL_law 256 = .ok (.iconst 0, 1) := by decide +kernel
theorem dL_law_257 : decode cL_law 257 = .ok (.ireturn, 1) := by decide +kernel
theorem dL_law_258 : decode cL_law 258 = .ok (.aload_n 1, 1) := by decide +kernel
theorem dL_law_259 : decode cL_law 259 = .ok (.aload_n 0, 1) := by decide +kernel
theorem dL_law_260 : decode cL_law 260 = .ok (.iload_n 3, 1) := by decide +kernel
theorem dL_law_261 : decode cL_law 261 = .ok (.iconst 1, 1) := by decide +kernel
theorem dL_law_262 : decode cL_law 262 = .ok (.iadd, 1) := by decide +kernel
theorem dL_law_263 : decode cL_law 263 = .ok (.iaload, 1) := by decide +kernel
theorem dL_law_264 : decode cL_law 264 = .ok (.invokevirtual 33, 3) := by decide +kernel
theorem dL_law_267 : decode cL_law 267 = .ok (.aload_n 2, 1) := by decide +kernel
theorem dL_law_268 : decode cL_law 268 = .ok (.aload_n 0, 1) := by decide +kernel
theorem dL_law_269 : decode cL_law 269 = .ok (.iload_n 3, 1) := by decide +kernel
theorem dL_law_270 : decode cL_law 270 = .ok (.iconst 1, 1) := by decide +kernel
theorem dL_law_271 : decode cL_law 271 = .ok (.iadd, 1) := by decide +kernel
theorem dL_law_272 : decode cL_law 272 = .ok (.iaload, 1) := by decide +kernel
theorem dL_law_273 : decode cL_law 273 = .ok (.invokevirtual 36, 3) := by decide +kernel
theorem dL_law_276 : decode cL_law 276 = .ok (.if_icmp .eq 477, 3) := by decide +kernel
theorem dL_law_279 : decode cL_law 279 = .ok (.iconst 0, 1) := by decide +kernel
theorem dL_law_280 : decode cL_law 280 = .ok (.ireturn, 1) := by decide +kernel
theorem dL_law_281 : decode cL_law 281 = .ok (.aload_n 1, 1) := by decide +kernel
theorem dL_law_282 : decode cL_law 282 = .ok (.aload_n 0, 1) := by decide +kernel
theorem dL_law_283 : decode cL_law 283 = .ok (.iload_n 3, 1) := by decide +kernel
theorem dL_law_284 : decode cL_law 284 = .ok (.iconst 1, 1) := by decide +kernel
theorem dL_law_285 : decode cL_law 285 = .ok (.iadd, 1) := by decide +kernel
theorem dL_law_286 : decode cL_law 286 = .ok (.iaload, 1) := by decide +kernel
theorem dL_law_287 : decode cL_law 287 = .ok (.aload_n 0, 1) := by decide +kernel
theorem dL_law_288 : decode cL_law 288 = .ok (.iload_n 3, 1) := by decide +kernel
theorem dL_law_289 : decode cL_law 289 = .ok (.iconst 2, 1) := by decide +kernel
theorem dL_law_290 : decode cL_law 290 = .ok (.iadd, 1) := by decide +kernel
theorem dL_law_291 : decode cL_law 291 = .ok (.iaload, 1) := by decide +kernel
theorem dL_law_292 : decode cL_law 292 = .ok (.aload_n 0, 1) := by decide +kernel
theorem dL_law_293 : decode cL_law 293 = .ok (.iload_n 3, 1) := by decide +kernel
theorem dL_law_294 : decode cL_law 294 = .ok (.iconst 3, 1) := by decide +kernel
theorem dL_law_295 : decode cL_law 295 = .ok (.iadd, 1) := by decide +kernel
theorem dL_law_296 : decode cL_law 296 = .ok (.iaload, 1) := by decide +kernel
theorem dL_law_297 : decode cL_law 297 = .ok (.ifCond .eq 7, 3) := by decide +kernel
theorem dL_law_300 : decode cL_law 300 = .ok (.iconst 1, 1) := by decide +kernel
theorem dL_law_301 : decode cL_law 301 = .ok (.goto 4, 3) := by decide +kernel
theorem dL_law_304 : decode cL_law 304 = .ok (.iconst 0, 1) := by decide +kernel
theorem dL_law_305 : decode cL_law 305 = .ok (.aload_n 0, 1) := by decide +kernel
theorem dL_law_306 : decode cL_law 306 = .ok (.iload_n 3, 1) := by decide +kernel
theorem dL_law_307 : decode cL_law 307 = .ok (.iconst 4, 1) := by decide +kernel
theorem dL_law_308 : decode cL_law 308 = .ok (.iadd, 1) := by decide +kernel
theorem dL_law_309 : decode cL_law 309 = .ok (.iaload, 1) := by decide +kernel
theorem dL_law_310 : decode cL_law 310 = .ok (.invokevirtual 37, 3) := by decide +kernel
theorem dL_law_313 : decode cL_law 313 = .ok (.aload_n 2, 1) := by decide +kernel
theorem dL_law_314 : decode cL_law 314 = .ok (.aload_n 0, 1) := by decide +kernel
theorem dL_law_315 : decode cL_law 315 = .ok (.iload_n 3, 1) := by decide +kernel
theorem dL_law_316 : decode cL_law 316 = .ok (.iconst 1, 1) := by decide +kernel
theorem dL_law_317 : decode cL_law 317 = .ok (.iadd, 1) := by decide +kernel
theorem dL_law_318 : decode cL_law 318 = .ok (.iaload, 1) := by decide +kernel
theorem dL_law_319 : decode cL_law 319 = .ok (.aload_n 0, 1) := by decide +kernel
theorem dL_law_320 : decode cL_law 320 = .ok (.iload_n 3, 1) := by decide +kernel
theorem dL_law_321 : decode cL_law 321 = .ok (.iconst 2, 1) := by decide +kernel
theorem dL_law_322 : decode cL_law 322 = .ok (.iadd, 1) := by decide +kernel
theorem dL_law_323 : decode cL_law 323 = .ok (.iaload, 1) := by decide +kernel
theorem dL_law_324 : decode cL_law 324 = .ok (.aload_n 0, 1) := by decide +kernel
theorem dL_law_325 : decode cL_law 325 = .ok (.iload_n 3, 1) := by decide +kernel
theorem dL_law_326 : decode cL_law 326 = .ok (.iconst 3, 1) := by decide +kernel
theorem dL_law_327 : decode cL_law 327 = .ok (.iadd, 1) := by decide +kernel
theorem dL_law_328 : decode cL_law 328 = .ok (.iaload, 1) := by decide +kernel
theorem dL_law_329 : decode cL_law 329 = .ok (.ifCond .eq 7, 3) := by decide +kernel
theorem dL_law_332 : decode cL_law 332 = .ok (.iconst 1, 1) := by decide +kernel
theorem dL_law_333 : decode cL_law 333 = .ok (.goto 4, 3) := by decide +kernel
theorem dL_law_336 : decode cL_law 336 = .ok (.iconst 0, 1) := by decide +kernel
theorem dL_law_337 : decode cL_law 337 = .ok (.aload_n 0, 1) := by decide +kernel
theorem dL_law_338 : decode cL_law 338 = .ok (.iload_n 3, 1) := by decide +kernel
theorem dL_law_339 : decode cL_law 339 = .ok (.iconst 4, 1) := by decide +kernel
theorem dL_law_340 : decode cL_law 340 = .ok (.iadd, 1) := by decide +kernel
theorem dL_law_341 : decode cL_law 341 = .ok (.iaload, 1) := by decide +kernel
theorem dL_law_342 : decode cL_law 342 = .ok (.invokevirtual 41, 3) := by decide +kernel
theorem dL_law_345 : decode cL_law 345 = .ok (.if_icmp .eq 408, 3) := by decide +kernel
theorem dL_law_348 : decode cL_law 348 = .ok (.iconst 0, 1) := by decide +kernel
theorem dL_law_349 : decode cL_law 349 = .ok (.ireturn, 1) := by decide +kernel
theorem dL_law_350 : decode cL_law 350 = .ok (.aload_n 1, 1) := by decide +kernel
theorem dL_law_351 : decode cL_law 351 = .ok (.aload_n 0, 1) := by decide +kernel
theorem dL_law_352 : decode cL_law 352 = .ok (.iload_n 3, 1) := by decide +kernel
theorem dL_law_353 : decode cL_law 353 = .ok (.iconst 1, 1) := by decide +kernel
theorem dL_law_354 : decode cL_law 354 = .ok (.iadd, 1) := by decide +kernel
theorem dL_law_355 : decode cL_law 355 = .ok (.iaload, 1) := by decide +kernel
theorem dL_law_356 : decode cL_law 356 = .ok (.invokevirtual 42, 3) := by decide +kernel
theorem dL_law_359 : decode cL_law 359 = .ok (.aload_n 2, 1) := by decide +kernel
theorem dL_law_360 : decode cL_law 360 = .ok (.aload_n 0, 1) := by decide +kernel
theorem dL_law_361 : decode cL_law 361 = .ok (.iload_n 3, 1) := by decide +kernel
theorem dL_law_362 : decode cL_law 362 = .ok (.iconst 1, 1) := by decide +kernel
theorem dL_law_363 : decode cL_law 363 = .ok (.iadd, 1) := by decide +kernel
theorem dL_law_364 : decode cL_law 364 = .ok (.iaload, 1) := by decide +kernel
theorem dL_law_365 : decode cL_law 365 = .ok (.invokevirtual 46, 3) := by decide +kernel
theorem dL_law_368 : decode cL_law 368 = .ok (.if_icmp .eq 385, 3) := by decide +kernel
theorem dL_law_371 : decode cL_law 371 = .ok (.iconst 0, 1) := by decide +kernel
theorem dL_law_372 : decode cL_law 372 = .ok (.ireturn, 1) := by decide +kernel
theorem dL_law_373 : decode cL_law 373 = .ok (.aload_n 1, 1) := by decide +kernel
theorem dL_law_374 : decode cL_law 374 = .ok (.aload_n 0, 1) := by decide +kernel
theorem dL_law_375 : decode cL_law 375 = .ok (.iload_n 3, 1) := by decide +kernel
theorem dL_law_376 : decode cL_law 376 = .ok (.iconst 1, 1) := by decide +kernel
theorem dL_law_377 : decode cL_law 377 = .ok (.iadd, 1) := by decide +kernel
theorem dL_law_378 : decode cL_law 378 = .ok (.iaload, 1) := by decide +kernel
theorem dL_law_379 : decode cL_law 379 = .ok (.aload_n 0, 1) := by decide +kernel
theorem dL_law_380 : decode cL_law 380 = .ok (.iload_n 3, 1) := by decide +kernel
theorem dL_law_381 : decode cL_law 381 = .ok (.iconst 2, 1) := by decide +kernel
theorem dL_law_382 : decode cL_law 382 = .ok (.iadd, 1) := by decide +kernel
theorem dL_law_383 : decode cL_law 383 = .ok (.iaload, 1) := by decide +kernel
theorem dL_law_384 : decode cL_law 384 = .ok (.ifCond .eq 7, 3) := by decide +kernel
theorem dL_law_387 : decode cL_law 387 = .ok (.iconst 1, 1) := by decide +kernel
theorem dL_law_388 : decode cL_law 388 = .ok (.goto 4, 3) := by decide +kernel
theorem dL_law_391 : decode cL_law 391 = .ok (.iconst 0, 1) := by decide +kernel
theorem dL_law_392 : decode cL_law 392 = .ok (.invokevirtual 47, 3) := by decide +kernel
theorem dL_law_395 : decode cL_law 395 = .ok (.aload_n 2, 1) := by decide +kernel
theorem dL_law_396 : decode cL_law 396 = .ok (.aload_n 0, 1) := by decide +kernel
theorem dL_law_397 : decode cL_law 397 = .ok (.iload_n 3, 1) := by decide +kernel
theorem dL_law_398 : decode cL_law 398 = .ok (.iconst 1, 1) := by decide +kernel
theorem dL_law_399 : decode cL_law 399 = .ok (.iadd, 1) := by decide +kernel
theorem dL_law_400 : decode cL_law 400 = .ok (.iaload, 1) := by decide +kernel
theorem dL_law_401 : decode cL_law 401 = .ok (.aload_n 0, 1) := by decide +kernel
theorem dL_law_402 : decode cL_law 402 = .ok (.iload_n 3, 1) := by decide +kernel
theorem dL_law_403 : decode cL_law 403 = .ok (.iconst 2, 1) := by decide +kernel
theorem dL_law_404 : decode cL_law 404 = .ok (.iadd, 1) := by decide +kernel
theorem dL_law_405 : decode cL_law 405 = .ok (.iaload, 1) := by decide +kernel
theorem dL_law_406 : decode cL_law 406 = .ok (.ifCond .eq 7, 3) := by decide +kernel
theorem dL_law_409 : decode cL_law 409 = .ok (.iconst 1, 1) := by decide +kernel
theorem dL_law_410 : decode cL_law 410 = .ok (.goto 4, 3) := by decide +kernel
theorem dL_law_413 : decode cL_law 413 = .ok (.iconst 0, 1) := by decide +kernel
theorem dL_law_414 : decode cL_law 414 = .ok (.invokevirtual 51, 3) := by decide +kernel
theorem dL_law_417 : decode cL_law 417 = .ok (.if_icmp .eq 336, 3) := by decide +kernel
theorem dL_law_420 : decode cL_law 420 = .ok (.iconst 0, 1) := by decide +kernel
theorem dL_law_421 : decode cL_law 421 = .ok (.ireturn, 1) := by decide +kernel
theorem dL_law_422 : decode cL_law 422 = .ok (.aload_n 1, 1) := by decide +kernel
theorem dL_law_423 : decode cL_law 423 = .ok (.aload_n 0, 1) := by decide +kernel
theorem dL_law_424 : decode cL_law 424 = .ok (.iload_n 3, 1) := by decide +kernel
theorem dL_law_425 : decode cL_law 425 = .ok (.iconst 1, 1) := by decide +kernel
theorem dL_law_426 : decode cL_law 426 = .ok (.iadd, 1) := by decide +kernel
theorem dL_law_427 : decode cL_law 427 = .ok (.iaload, 1) := by decide +kernel
theorem dL_law_428 : decode cL_law 428 = .ok (.aload_n 0, 1) := by decide +kernel
theorem dL_law_429 : decode cL_law 429 = .ok (.iload_n 3, 1) := by decide +kernel
theorem dL_law_430 : decode cL_law 430 = .ok (.iconst 2, 1) := by decide +kernel
theorem dL_law_431 : decode cL_law 431 = .ok (.iadd, 1) := by decide +kernel
theorem dL_law_432 : decode cL_law 432 = .ok (.iaload, 1) := by decide +kernel
theorem dL_law_433 : decode cL_law 433 = .ok (.aload_n 0, 1) := by decide +kernel
theorem dL_law_434 : decode cL_law 434 = .ok (.iload_n 3, 1) := by decide +kernel
theorem dL_law_435 : decode cL_law 435 = .ok (.iconst 3, 1) := by decide +kernel
theorem dL_law_436 : decode cL_law 436 = .ok (.iadd, 1) := by decide +kernel
theorem dL_law_437 : decode cL_law 437 = .ok (.iaload, 1) := by decide +kernel
theorem dL_law_438 : decode cL_law 438 = .ok (.aload_n 0, 1) := by decide +kernel
theorem dL_law_439 : decode cL_law 439 = .ok (.iload_n 3, 1) := by decide +kernel
theorem dL_law_440 : decode cL_law 440 = .ok (.iconst 4, 1) := by decide +kernel
theorem dL_law_441 : decode cL_law 441 = .ok (.iadd, 1) := by decide +kernel
theorem dL_law_442 : decode cL_law 442 = .ok (.iaload, 1) := by decide +kernel
theorem dL_law_443 : decode cL_law 443 = .ok (.ifCond .eq 7, 3) := by decide +kernel
theorem dL_law_446 : decode cL_law 446 = .ok (.iconst 1, 1) := by decide +kernel
theorem dL_law_447 : decode cL_law 447 = .ok (.goto 4, 3) := by decide +kernel
theorem dL_law_450 : decode cL_law 450 = .ok (.iconst 0, 1) := by decide +kernel
theorem dL_law_451 : decode cL_law 451 = .ok (.invokevirtual 52, 3) := by decide +kernel
theorem dL_law_454 : decode cL_law 454 = .ok (.aload_n 2, 1) := by decide +kernel
theorem dL_law_455 : decode cL_law 455 = .ok (.aload_n 0, 1) := by decide +kernel
theorem dL_law_456 : decode cL_law 456 = .ok (.iload_n 3, 1) := by decide +kernel
theorem dL_law_457 : decode cL_law 457 = .ok (.iconst 1, 1) := by decide +kernel
theorem dL_law_458 : decode cL_law 458 = .ok (.iadd, 1) := by decide +kernel
theorem dL_law_459 : decode cL_law 459 = .ok (.iaload, 1) := by decide +kernel
theorem dL_law_460 : decode cL_law 460 = .ok (.aload_n 0, 1) := by decide +kernel
theorem dL_law_461 : decode cL_law 461 = .ok (.iload_n 3, 1) := by decide +kernel
theorem dL_law_462 : decode cL_law 462 = .ok (.iconst 2, 1) := by decide +kernel
theorem dL_law_463 : decode cL_law 463 = .ok (.iadd, 1) := by decide +kernel
theorem dL_law_464 : decode cL_law 464 = .ok (.iaload, 1) := by decide +kernel
theorem dL_law_465 : decode cL_law 465 = .ok (.aload_n 0, 1) := by decide +kernel
theorem dL_law_466 : decode cL_law 466 = .ok (.iload_n 3, 1) := by decide +kernel
theorem dL_law_467 : decode cL_law 467 = .ok (.iconst 3, 1) := by decide +kernel
theorem dL_law_468 : decode cL_law 468 = .ok (.iadd, 1) := by decide +kernel
theorem dL_law_469 : decode cL_law 469 = .ok (.iaload, 1) := by decide +kernel
theorem dL_law_470 : decode cL_law 470 = .ok (.aload_n 0, 1) := by decide +kernel
theorem dL_law_471 : decode cL_law 471 = .ok (.iload_n 3, 1) := by decide +kernel
theorem dL_law_472 : decode cL_law 472 = .ok (.iconst 4, 1) := by decide +kernel
theorem dL_law_473 : decode cL_law 473 = .ok (.iadd, 1) := by decide +kernel
theorem dL_law_474 : decode cL_law 474 = .ok (.iaload, 1) := by decide +kernel
theorem dL_law_475 : decode cL_law 475 = .ok (.ifCond .eq 7, 3) := by decide +kernel
theorem dL_law_478 : decode cL_law 478 = .ok (.iconst 1, 1) := by decide +kernel
theorem dL_law_479 : decode cL_law 479 = .ok (.goto 4, 3) := by decide +kernel
theorem dL_law_482 : decode cL_law 482 = .ok (.iconst 0, 1) := by decide +kernel
theorem dL_law_483 : decode cL_law 483 = .ok (.invokevirtual 56, 3) := by decide +kernel
theorem dL_law_486 : decode cL_law 486 = .ok (.if_icmp .eq 267, 3) := by decide +kernel
theorem dL_law_489 : decode cL_law 489 = .ok (.iconst 0, 1) := by decide +kernel
theorem dL_law_490 : decode cL_law 490 = .ok (.ireturn, 1) := by decide +kernel
theorem dL_law_491 : decode cL_law 491 = .ok (.aload_n 1, 1) := by decide +kernel
theorem dL_law_492 : decode cL_law 492 = .ok (.aload_n 0, 1) := by decide +kernel
theorem dL_law_493 : decode cL_law 493 = .ok (.iload_n 3, 1) := by decide +kernel
theorem dL_law_494 : decode cL_law 494 = .ok (.iconst 1, 1) := by decide +kernel
theorem dL_law_495 : decode cL_law 495 = .ok (.iadd, 1) := by decide +kernel
theorem dL_law_496 : decode cL_law 496 = .ok (.iaload, 1) := by decide +kernel
theorem dL_law_497 : decode cL_law 497 = .ok (.invokevirtual 57, 3) := by decide +kernel
theorem dL_law_500 : decode cL_law 500 = .ok (.aload_n 2, 1) := by decide +kernel
theorem dL_law_501 : decode cL_law 501 = .ok (.aload_n 0, 1) := by decide +kernel
theorem dL_law_502 : decode cL_law 502 = .ok (.iload_n 3, 1) := by decide +kernel
theorem dL_law_503 : decode cL_law 503 = .ok (.iconst 1, 1) := by decide +kernel
theorem dL_law_504 : decode cL_law 504 = .ok (.iadd, 1) := by decide +kernel
theorem dL_law_505 : decode cL_law 505 = .ok (.iaload, 1) := by decide +kernel
theorem dL_law_506 : decode cL_law 506 = .ok (.invokevirtual 60, 3) := by decide +kernel
theorem dL_law_509 : decode cL_law 509 = .ok (.if_icmp .eq 244, 3) := by decide +kernel
theorem dL_law_512 : decode cL_law 512 = .ok (.iconst 0, 1) := by decide +kernel
theorem dL_law_513 : decode cL_law 513 = .ok (.ireturn, 1) := by decide +kernel
theorem dL_law_514 : decode cL_law 514 = .ok (.aload_n 1, 1) := by decide +kernel
theorem dL_law_515 : decode cL_law 515 = .ok (.aload_n 0, 1) := by decide +kernel
theorem dL_law_516 : decode cL_law 516 = .ok (.iload_n 3, 1) := by decide +kernel
theorem dL_law_517 : decode cL_law 517 = .ok (.iconst 1, 1) := by decide +kernel
theorem dL_law_518 : decode cL_law 518 = .ok (.iadd, 1) := by decide +kernel
theorem dL_law_519 : decode cL_law 519 = .ok (.iaload, 1) := by decide +kernel
theorem dL_law_520 : decode cL_law 520 = .ok (.aload_n 0, 1) := by decide +kernel
theorem dL_law_521 : decode cL_law 521 = .ok (.iload_n 3, 1) := by decide +kernel
theorem dL_law_522 : decode cL_law 522 = .ok (.iconst 2, 1) := by decide +kernel
theorem dL_law_523 : decode cL_law 523 = .ok (.iadd, 1) := by decide +kernel
theorem dL_law_524 : decode cL_law 524 = .ok (.iaload, 1) := by decide +kernel
theorem dL_law_525 : decode cL_law 525 = .ok (.invokevirtual 61, 3) := by decide +kernel
theorem dL_law_528 : decode cL_law 528 = .ok (.aload_n 2, 1) := by decide +kernel
theorem dL_law_529 : decode cL_law 529 = .ok (.aload_n 0, 1) := by decide +kernel
theorem dL_law_530 : decode cL_law 530 = .ok (.iload_n 3, 1) := by decide +kernel
theorem dL_law_531 : decode cL_law 531 = .ok (.iconst 1, 1) := by decide +kernel
theorem dL_law_532 : decode cL_law 532 = .ok (.iadd, 1) := by decide +kernel
theorem dL_law_533 : decode cL_law 533 = .ok (.iaload, 1) := by decide +kernel
theorem dL_law_534 : decode cL_law 534 = .ok (.aload_n 0, 1) := by decide +kernel
theorem dL_law_535 : decode cL_law 535 = .ok (.iload_n 3, 1) := by decide +kernel
theorem dL_law_536 : decode cL_law 536 = .ok (.iconst 2, 1) := by decide +kernel
theorem dL_law_537 : decode cL_law 537 = .ok (.iadd, 1) := by decide +kernel
theorem dL_law_538 : decode cL_law 538 = .ok (.iaload, 1) := by decide +kernel
theorem dL_law_539 : decode cL_law 539 = .ok (.invokevirtual 65, 3) := by decide +kernel
theorem dL_law_542 : decode cL_law 542 = .ok (.if_icmp .eq 211, 3) := by decide +kernel
theorem dL_law_545 : decode cL_law 545 = .ok (.iconst 0, 1) := by decide +kernel
theorem dL_law_546 : decode cL_law 546 = .ok (.ireturn, 1) := by decide +kernel
theorem dL_law_547 : decode cL_law 547 = .ok (.aload_n 1, 1) := by decide +kernel
theorem dL_law_548 : decode cL_law 548 = .ok (.aload_n 0, 1) := by decide +kernel
theorem dL_law_549 : decode cL_law 549 = .ok (.iload_n 3, 1) := by decide +kernel
theorem dL_law_550 : decode cL_law 550 = .ok (.iconst 1, 1) := by decide +kernel
theorem dL_law_551 : decode cL_law 551 = .ok (.iadd, 1) := by decide +kernel
theorem dL_law_552 : decode cL_law 552 = .ok (.iaload, 1) := by decide +kernel
theorem dL_law_553 : decode cL_law 553 = .ok (.aload_n 0, 1) := by decide +kernel
theorem dL_law_554 : decode cL_law 554 = .ok (.iload_n 3, 1) := by decide +kernel
theorem dL_law_555 : decode cL_law 555 = .ok (.iconst 2, 1) := by decide +kernel
theorem dL_law_556 : decode cL_law 556 = .ok (.iadd, 1) := by decide +kernel
theorem dL_law_557 : decode cL_law 557 = .ok (.iaload, 1) := by decide +kernel
theorem dL_law_558 : decode cL_law 558 = .ok (.aload_n 0, 1) := by decide +kernel
theorem dL_law_559 : decode cL_law 559 = .ok (.iload_n 3, 1) := by decide +kernel
theorem dL_law_560 : decode cL_law 560 = .ok (.iconst 3, 1) := by decide +kernel
theorem dL_law_561 : decode cL_law 561 = .ok (.iadd, 1) := by decide +kernel
theorem dL_law_562 : decode cL_law 562 = .ok (.iaload, 1) := by decide +kernel
theorem dL_law_563 : decode cL_law 563 = .ok (.invokevirtual 66, 3) := by decide +kernel
theorem dL_law_566 : decode cL_law 566 = .ok (.aload_n 2, 1) := by decide +kernel
theorem dL_law_567 : decode cL_law 567 = .ok (.aload_n 0, 1) := by decide +kernel
theorem dL_law_568 : decode cL_law 568 = .ok (.iload_n 3, 1) := by decide +kernel
theorem dL_law_569 : decode cL_law 569 = .ok (.iconst 1, 1) := by decide +kernel
theorem dL_law_570 : decode cL_law 570 = .ok (.iadd, 1) := by decide +kernel
theorem dL_law_571 : decode cL_law 571 = .ok (.iaload, 1) := by decide +kernel
theorem dL_law_572 : decode cL_law 572 = .ok (.aload_n 0, 1) := by decide +kernel
theorem dL_law_573 : decode cL_law 573 = .ok (.iload_n 3, 1) := by decide +kernel
theorem dL_law_574 : decode cL_law 574 = .ok (.iconst 2, 1) := by decide +kernel
theorem dL_law_575 : decode cL_law 575 = .ok (.iadd, 1) := by decide +kernel
theorem dL_law_576 : decode cL_law 576 = .ok (.iaload, 1) := by decide +kernel
theorem dL_law_577 : decode cL_law 577 = .ok (.aload_n 0, 1) := by decide +kernel
theorem dL_law_578 : decode cL_law 578 = .ok (.iload_n 3, 1) := by decide +kernel
theorem dL_law_579 : decode cL_law 579 = .ok (.iconst 3, 1) := by decide +kernel
theorem dL_law_580 : decode cL_law 580 = .ok (.iadd, 1) := by decide +kernel
theorem dL_law_581 : decode cL_law 581 = .ok (.iaload, 1) := by decide +kernel
theorem dL_law_582 : decode cL_law 582 = .ok (.invokevirtual 70, 3) := by decide +kernel
theorem dL_law_585 : decode cL_law 585 = .ok (.if_icmp .eq 168, 3) := by decide +kernel
theorem dL_law_588 : decode cL_law 588 = .ok (.iconst 0, 1) := by decide +kernel
theorem dL_law_589 : decode cL_law 589 = .ok (.ireturn, 1) := by decide +kernel
theorem dL_law_590 : decode cL_law 590 = .ok (.aload_n 1, 1) := by decide +kernel
theorem dL_law_591 : decode cL_law 591 = .ok (.aload_n 0, 1) := by decide +kernel
theorem dL_law_592 : decode cL_law 592 = .ok (.iload_n 3, 1) := by decide +kernel
theorem dL_law_593 : decode cL_law 593 = .ok (.iconst 1, 1) := by decide +kernel
theorem dL_law_594 : decode cL_law 594 = .ok (.iadd, 1) := by decide +kernel
theorem dL_law_595 : decode cL_law 595 = .ok (.iaload, 1) := by decide +kernel
theorem dL_law_596 : decode cL_law 596 = .ok (.ifCond .eq 7, 3) := by decide +kernel
theorem dL_law_599 : decode cL_law 599 = .ok (.iconst 1, 1) := by decide +kernel
theorem dL_law_600 : decode cL_law 600 = .ok (.goto 4, 3) := by decide +kernel
theorem dL_law_603 : decode cL_law 603 = .ok (.iconst 0, 1) := by decide +kernel
theorem dL_law_604 : decode cL_law 604 = .ok (.invokevirtual 71, 3) := by decide +kernel
theorem dL_law_607 : decode cL_law 607 = .ok (.aload_n 2, 1) := by decide +kernel
theorem dL_law_608 : decode cL_law 608 = .ok (.aload_n 0, 1) := by decide +kernel
theorem dL_law_609 : decode cL_law 609 = .ok (.iload_n 3, 1) := by decide +kernel
theorem dL_law_610 : decode cL_law 610 = .ok (.iconst 1, 1) := by decide +kernel
theorem dL_law_611 : decode cL_law 611 = .ok (.iadd, 1) := by decide +kernel
theorem dL_law_612 : decode cL_law 612 = .ok (.iaload, 1) := by decide +kernel
theorem dL_law_613 : decode cL_law 613 = .ok (.ifCond .eq 7, 3) := by decide +kernel
theorem dL_law_616 : decode cL_law 616 = .ok (.iconst 1, 1) := by decide +kernel
theorem dL_law_617 : decode cL_law 617 = .ok (.goto 4, 3) := by decide +kernel
theorem dL_law_620 : decode cL_law 620 = .ok (.iconst 0, 1) := by decide +kernel
theorem dL_law_621 : decode cL_law 621 = .ok (.invokevirtual 75, 3) := by decide +kernel
theorem dL_law_624 : decode cL_law 624 = .ok (.if_icmp .eq 129, 3) := by decide +kernel
theorem dL_law_627 : decode cL_law 627 = .ok (.iconst 0, 1) := by decide +kernel
theorem dL_law_628 : decode cL_law 628 = .ok (.ireturn, 1) := by decide +kernel
theorem dL_law_629 : decode cL_law 629 = .ok (.aload_n 1, 1) := by decide +kernel
theorem dL_law_630 : decode cL_law 630 = .ok (.aload_n 0, 1) := by decide +kernel
theorem dL_law_631 : decode cL_law 631 = .ok (.iload_n 3, 1) := by decide +kernel
theorem dL_law_632 : decode cL_law 632 = .ok (.iconst 1, 1) := by decide +kernel
theorem dL_law_633 : decode cL_law 633 = .ok (.iadd, 1) := by decide +kernel
theorem dL_law_634 : decode cL_law 634 = .ok (.iaload, 1) := by decide +kernel
theorem dL_law_635 : decode cL_law 635 = .ok (.ifCond .eq 7, 3) := by decide +kernel
theorem dL_law_638 : decode cL_law 638 = .ok (.iconst 1, 1) := by decide +kernel
theorem dL_law_639 : decode cL_law 639 = .ok (.goto 4, 3) := by decide +kernel
theorem dL_law_642 : decode cL_law 642 = .ok (.iconst 0, 1) := by decide +kernel
theorem dL_law_643 : decode cL_law 643 = .ok (.invokevirtual 76, 3) := by decide +kernel
theorem dL_law_646 : decode cL_law 646 = .ok (.aload_n 2, 1) := by decide +kernel
theorem dL_law_647 : decode cL_law 647 = .ok (.aload_n 0, 1) := by decide +kernel
theorem dL_law_648 : decode cL_law 648 = .ok (.iload_n 3, 1) := by decide +kernel
theorem dL_law_649 : decode cL_law 649 = .ok (.iconst 1, 1) := by decide +kernel
theorem dL_law_650 : decode cL_law 650 = .ok (.iadd, 1) := by decide +kernel
theorem dL_law_651 : decode cL_law 651 = .ok (.iaload, 1) := by decide +kernel
theorem dL_law_652 : decode cL_law 652 = .ok (.ifCond .eq 7, 3) := by decide +kernel
theorem dL_law_655 : decode cL_law 655 = .ok (.iconst 1, 1) := by decide +kernel
theorem dL_law_656 : decode cL_law 656 = .ok (.goto 4, 3) := by decide +kernel
theorem dL_law_659 : decode cL_law 659 = .ok (.iconst 0, 1) := by decide +kernel
theorem dL_law_660 : decode cL_law 660 = .ok (.invokevirtual 80, 3) := by decide +kernel
theorem dL_law_663 : decode cL_law 663 = .ok (.if_icmp .eq 90, 3) := by decide +kernel
theorem dL_law_666 : decode cL_law 666 = .ok (.iconst 0, 1) := by decide +kernel
theorem dL_law_667 : decode cL_law 667 = .ok (.ireturn, 1) := by decide +kernel
theorem dL_law_668 : decode cL_law 668 = .ok (.aload_n 1, 1) := by decide +kernel
theorem dL_law_669 : decode cL_law 669 = .ok (.aload_n 0, 1) := by decide +kernel
theorem dL_law_670 : decode cL_law 670 = .ok (.iload_n 3, 1) := by decide +kernel
theorem dL_law_671 : decode cL_law 671 = .ok (.iconst 1, 1) := by decide +kernel
theorem dL_law_672 : decode cL_law 672 = .ok (.iadd, 1) := by decide +kernel
theorem dL_law_673 : decode cL_law 673 = .ok (.iaload, 1) := by decide +kernel
theorem dL_law_674 : decode cL_law 674 = .ok (.ifCond .eq 7, 3) := by decide +kernel
theorem dL_law_677 : decode cL_law 677 = .ok (.iconst 1, 1) := by decide +kernel
theorem dL_law_678 : decode cL_law 678 = .ok (.goto 4, 3) := by decide +kernel
theorem dL_law_681 : decode cL_law 681 = .ok (.iconst 0, 1) := by decide +kernel
theorem dL_law_682 : decode cL_law 682 = .ok (.invokevirtual 81, 3) := by decide +kernel
theorem dL_law_685 : decode cL_law 685 = .ok (.aload_n 2, 1) := by decide +kernel
theorem dL_law_686 : decode cL_law 686 = .ok (.aload_n 0, 1) := by decide +kernel
theorem dL_law_687 : decode cL_law 687 = .ok (.iload_n 3, 1) := by decide +kernel
theorem dL_law_688 : decode cL_law 688 = .ok (.iconst 1, 1) := by decide +kernel
theorem dL_law_689 : decode cL_law 689 = .ok (.iadd, 1) := by decide +kernel
theorem dL_law_690 : decode cL_law 690 = .ok (.iaload, 1) := by decide +kernel
theorem dL_law_691 : decode cL_law 691 = .ok (.ifCond .eq 7, 3) := by decide +kernel
theorem dL_law_694 : decode cL_law 694 = .ok (.iconst 1, 1) := by decide +kernel
theorem dL_law_695 : decode cL_law 695 = .ok (.goto 4, 3) := by decide +kernel
theorem dL_law_698 : decode cL_law 698 = .ok (.iconst 0, 1) := by decide +kernel
theorem dL_law_699 : decode cL_law 699 = .ok (.invokevirtual 84, 3) := by decide +kernel
theorem dL_law_702 : decode cL_law 702 = .ok (.if_icmp .eq 51, 3) := by decide +kernel
theorem dL_law_705 : decode cL_law 705 = .ok (.iconst 0, 1) := by decide +kernel
theorem dL_law_706 : decode cL_law 706 = .ok (.ireturn, 1) := by decide +kernel
theorem dL_law_707 : decode cL_law 707 = .ok (.aload_n 1, 1) := by decide +kernel
theorem dL_law_708 : decode cL_law 708 = .ok (.aload_n 0, 1) := by decide +kernel
theorem dL_law_709 : decode cL_law 709 = .ok (.iload_n 3, 1) := by decide +kernel
theorem dL_law_710 : decode cL_law 710 = .ok (.iconst 1, 1) := by decide +kernel
theorem dL_law_711 : decode cL_law 711 = .ok (.iadd, 1) := by decide +kernel
theorem dL_law_712 : decode cL_law 712 = .ok (.iaload, 1) := by decide +kernel
theorem dL_law_713 : decode cL_law 713 = .ok (.aload_n 0, 1) := by decide +kernel
theorem dL_law_714 : decode cL_law 714 = .ok (.iload_n 3, 1) := by decide +kernel
theorem dL_law_715 : decode cL_law 715 = .ok (.iconst 2, 1) := by decide +kernel
theorem dL_law_716 : decode cL_law 716 = .ok (.iadd, 1) := by decide +kernel
theorem dL_law_717 : decode cL_law 717 = .ok (.iaload, 1) := by decide +kernel
theorem dL_law_718 : decode cL_law 718 = .ok (.invokevirtual 85, 3) := by decide +kernel
theorem dL_law_721 : decode cL_law 721 = .ok (.aload_n 2, 1) := by decide +kernel
theorem dL_law_722 : decode cL_law 722 = .ok (.aload_n 0, 1) := by decide +kernel
theorem dL_law_723 : decode cL_law 723 = .ok (.iload_n 3, 1) := by decide +kernel
theorem dL_law_724 : decode cL_law 724 = .ok (.iconst 1, 1) := by decide +kernel
theorem dL_law_725 : decode cL_law 725 = .ok (.iadd, 1) := by decide +kernel
theorem dL_law_726 : decode cL_law 726 = .ok (.iaload, 1) := by decide +kernel
theorem dL_law_727 : decode cL_law 727 = .ok (.aload_n 0, 1) := by decide +kernel
theorem dL_law_728 : decode cL_law 728 = .ok (.iload_n 3, 1) := by decide +kernel
theorem dL_law_729 : decode cL_law 729 = .ok (.iconst 2, 1) := by decide +kernel
theorem dL_law_730 : decode cL_law 730 = .ok (.iadd, 1) := by decide +kernel
theorem dL_law_731 : decode cL_law 731 = .ok (.iaload, 1) := by decide +kernel
theorem dL_law_732 : decode cL_law 732 = .ok (.invokevirtual 89, 3) := by decide +kernel
theorem dL_law_735 : decode cL_law 735 = .ok (.if_icmp .eq 18, 3) := by decide +kernel
theorem dL_law_738 : decode cL_law 738 = .ok (.iconst 0, 1) := by decide +kernel
theorem dL_law_739 : decode cL_law 739 = .ok (.ireturn, 1) := by decide +kernel
theorem dL_law_740 : decode cL_law 740 = .ok (.aload_n 1, 1) := by decide +kernel
theorem dL_law_741 : decode cL_law 741 = .ok (.invokevirtual 90, 3) := by decide +kernel
theorem dL_law_744 : decode cL_law 744 = .ok (.aload_n 2, 1) := by decide +kernel
theorem dL_law_745 : decode cL_law 745 = .ok (.invokevirtual 93, 3) := by decide +kernel
theorem dL_law_748 : decode cL_law 748 = .ok (.if_icmp .eq 5, 3) := by decide +kernel
theorem dL_law_751 : decode cL_law 751 = .ok (.iconst 0, 1) := by decide +kernel
theorem dL_law_752 : decode cL_law 752 = .ok (.ireturn, 1) := by decide +kernel
theorem dL_law_753 : decode cL_law 753 = .ok (.iinc 3 6, 3) := by decide +kernel
theorem dL_law_756 : decode cL_law 756 = .ok (.goto (-738), 3) := by decide +kernel
theorem dL_law_759 : decode cL_law 759 = .ok (.iconst 1, 1) := by decide +kernel
theorem dL_law_760 : decode cL_law 760 = .ok (.ireturn, 1) := by decide +kernel
