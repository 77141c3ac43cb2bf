theorem dX11_cut_6 : decode cX11_cut 6 = .ok (.lload_n 0, 1) := by decide +kernel
theorem dX11_cut_7 : decode cX11_cut 7 = .ok (.goto 8, 3) := by decide +kernel
theorem dX11_cut_10 : decode cX11_cut 10 = .ok (.lload_n 0, 1) := by decide +kernel
theorem dX11_cut_11 : decode cX11_cut 11 = .ok (.ldc2_w 142, 3) := by decide +kernel
theorem dX11_cut_14 : decode cX11_cut 14 = .ok (.land, 1) := by decide +kernel
theorem dX11_cut_15 : decode cX11_cut 15 = .ok (.lreturn, 1) := by decide +kernel
theorem dX11_mixed_0 : decode cX11_mixed 0 = .ok (.iload_n 3, 1) := by decide +kernel
theorem dX11_mixed_1 : decode cX11_mixed 1 = .ok (.bipush 64, 2) := by decide +kernel
theorem dX11_mixed_3 : decode cX11_mixed 3 = .ok (.if_icmp .ne 8, 3) := by decide +kernel
theorem dX11_mixed_6 : decode cX11_mixed 6 = .ok (.bipush 12, 2) := by decide +kernel
theorem dX11_mixed_8 : decode cX11_mixed 8 = .ok (.goto 4, 3) := by decide +kernel
theorem dX11_mixed_11 : decode cX11_mixed 11 = .ok (.iconst 0, 1) := by decide +kernel
theorem dX11_mixed_12 : decode cX11_mixed 12 = .ok (.iconst 3, 1) := by decide +kernel
theorem dX11_mixed_13 : decode cX11_mixed 13 = .ok (.iload_n 2, 1) := by decide +kernel
theorem dX11_mixed_14 : decode cX11_mixed 14 = .ok (.imul, 1) := by decide +kernel
theorem dX11_mixed_15 : decode cX11_mixed 15 = .ok (.iadd, 1) := by decide +kernel
theorem dX11_mixed_16 : decode cX11_mixed 16 = .ok (.istore 4, 2) := by decide +kernel
theorem dX11_mixed_18 : decode cX11_mixed 18 = .ok (.iload_n 2, 1) := by decide +kernel
theorem dX11_mixed_19 : decode cX11_mixed 19 = .ok (.iconst 2, 1) := by decide +kernel
theorem dX11_mixed_20 : decode cX11_mixed 20 = .ok (.if_icmp .ge 19, 3) := by decide +kernel
theorem dX11_mixed_23 : decode cX11_mixed 23 = .ok (.lload_n 0, 1) := by decide +kernel
theorem dX11_mixed_24 : decode cX11_mixed 24 = .ok (.getstatic 144, 3) := by decide +kernel
theorem dX11_mixed_27 : decode cX11_mixed 27 = .ok (.iload 4, 2) := by decide +kernel
theorem dX11_mixed_29 : decode cX11_mixed 29 = .ok (.iconst 2, 1) := by decide +kernel
theorem dX11_mixed_30 : decode cX11_mixed 30 = .ok (.iadd, 1) := by decide +kernel
theorem dX11_mixed_31 : decode cX11_mixed 31 = .ok (.iaload, 1) := by decide +kernel
theorem dX11_mixed_32 : decode cX11_mixed 32 = .ok (.iload_n 3, 1) := by decide +kernel
theorem dX11_mixed_33 : decode cX11_mixed 33 = .ok (.invokestatic 147, 3) := by decide +kernel
theorem dX11_mixed_36 : decode cX11_mixed 36 = .ok (.goto 13, 3) := by decide +kernel
theorem dX11_mixed_39 : decode cX11_mixed 39 = .ok (.lload_n 0, 1) := by decide +kernel
theorem dX11_mixed_40 : decode cX11_mixed 40 = .ok (.getstatic 144, 3) := by decide +kernel
theorem dX11_mixed_43 : decode cX11_mixed 43 = .ok (.iload 4, 2) := by decide +kernel
theorem dX11_mixed_45 : decode cX11_mixed 45 = .ok (.iconst 2, 1) := by decide +kernel
theorem dX11_mixed_46 : decode cX11_mixed 46 = .ok (.iadd, 1) := by decide +kernel
theorem dX11_mixed_47 : decode cX11_mixed 47 = .ok (.iaload, 1) := by decide +kernel
theorem dX11_mixed_48 : decode cX11_mixed 48 = .ok (.lushr, 1) := by decide +kernel
theorem dX11_mixed_49 : decode cX11_mixed 49 = .ok (.lstore 5, 2) := by decide +kernel
theorem dX11_mixed_51 : decode cX11_mixed 51 = .ok (.lload_n 0, 1) := by decide +kernel
theorem dX11_mixed_52 : decode cX11_mixed 52 = .ok (.getstatic 144, 3) := by decide +kernel
theorem dX11_mixed_55 : decode cX11_mixed 55 = .ok (.iload 4, 2) := by decide +kernel
theorem dX11_mixed_57 : decode cX11_mixed 57 = .ok (.iaload, 1) := by decide +kernel
theorem dX11_mixed_58 : decode cX11_mixed 58 = .ok (.iload_n 3, 1) := by decide +kernel
theorem dX11_mixed_59 : decode cX11_mixed 59 = .ok (.invokestatic 147, 3) := by decide +kernel
theorem dX11_mixed_62 : decode cX11_mixed 62 = .ok (.lload_n 0, 1) := by decide +kernel
theorem dX11_mixed_63 : decode cX11_mixed 63 = .ok (.getstatic 144, 3) := by decide +kernel
theorem dX11_mixed_66 : decode cX11_mixed 66 = .ok (.iload 4, 2) := by decide +kernel
theorem dX11_mixed_68 : decode cX11_mixed 68 = .ok (.iconst 1, 1) := by decide +kernel
theorem dX11_mixed_69 : decode cX11_mixed 69 = .ok (.iadd, 1) := by decide +kernel
theorem dX11_mixed_70 : decode cX11_mixed 70 = .ok (.iaload, 1) := by decide +kernel
theorem dX11_mixed_71 : decode cX11_mixed 71 = .ok (.iload_n 3, 1) := by decide +kernel
theorem dX11_mixed_72 : decode cX11_mixed 72 = .ok (.invokestatic 147, 3) := by decide +kernel
theorem dX11_mixed_75 : decode cX11_mixed 75 = .ok (.lxor, 1) := by decide +kernel
theorem dX11_mixed_76 : decode cX11_mixed 76 = .ok (.lload 5, 2) := by decide +kernel
theorem dX11_mixed_78 : decode cX11_mixed 78 = .ok (.lxor, 1) := by decide +kernel
theorem dX11_mixed_79 : decode cX11_mixed 79 = .ok (.lreturn, 1) := by decide +kernel
theorem dX11_sizeOf_0 : decode cX11_sizeOf 0 = .ok (.iload_n 0, 1) := by decide +kernel
theorem dX11_sizeOf_1 : decode cX11_sizeOf 1 = .ok (.ifCond .eq 8, 3) := by decide +kernel
theorem dX11_sizeOf_4 : decode cX11_sizeOf 4 = .ok (.bipush 64, 2) := by decide +kernel
theorem dX11_sizeOf_6 : decode cX11_sizeOf 6 = .ok (.goto 5, 3) := by decide +kernel
theorem dX11_sizeOf_9 : decode cX11_sizeOf 9 = .ok (.bipush 32, 2) := by decide +kernel
theorem dX11_sizeOf_11 : decode cX11_sizeOf 11 = .ok (.ireturn, 1) := by decide +kernel
theorem dX11_digest_0 : decode cX11_digest 0 = .ok (.iload_n 1, 1) := by decide +kernel
theorem dX11_digest_1 : decode cX11_digest 1 = .ok (.ifCond .eq 8, 3) := by decide +kernel
theorem dX11_digest_4 : decode cX11_digest 4 = .ok (.bipush 64, 2) := by decide +kernel
theorem dX11_digest_6 : decode cX11_digest 6 = .ok (.goto 5, 3) := by decide +kernel
theorem dX11_digest_9 : decode cX11_digest 9 = .ok (.bipush 32, 2) := by decide +kernel
theorem dX11_digest_11 : decode cX11_digest 11 = .ok (.istore 4, 2) := by decide +kernel
theorem dX11_digest_13 : decode cX11_digest 13 = .ok (.iload_n 1, 1) := by decide +kernel
theorem dX11_digest_14 : decode cX11_digest 14 = .ok (.ifCond .eq 9, 3) := by decide +kernel
theorem dX11_digest_17 : decode cX11_digest 17 = .ok (.sipush 128, 3) := by decide +kernel
theorem dX11_digest_20 : decode cX11_digest 20 = .ok (.goto 5, 3) := by decide +kernel
theorem dX11_digest_23 : decode cX11_digest 23 = .ok (.bipush 64, 2) := by decide +kernel
theorem dX11_digest_25 : decode cX11_digest 25 = .ok (.istore 5, 2) := by decide +kernel
theorem dX11_digest_27 : decode cX11_digest 27 = .ok (.iload_n 3, 1) := by decide +kernel
theorem dX11_digest_28 : decode cX11_digest 28 = .ok (.iconst 1, 1) := by decide +kernel
theorem dX11_digest_29 : decode cX11_digest 29 = .ok (.iadd, 1) := by decide +kernel
theorem dX11_digest_30 : decode cX11_digest 30 = .ok (.iload 5, 2) := by decide +kernel
theorem dX11_digest_32 : decode cX11_digest 32 = .ok (.bipush 8, 2) := by decide +kernel
theorem dX11_digest_34 : decode cX11_digest 34 = .ok (.idiv, 1) := by decide +kernel
theorem dX11_digest_35 : decode cX11_digest 35 = .ok (.iadd, 1) := by decide +kernel
theorem dX11_digest_36 : decode cX11_digest 36 = .ok (.iload 5, 2) := by decide +kernel
theorem dX11_digest_38 : decode cX11_digest 38 = .ok (.iadd, 1) := by decide +kernel
theorem dX11_digest_39 : decode cX11_digest 39 = .ok (.iconst 1, 1) := by decide +kernel
theorem dX11_digest_40 : decode cX11_digest 40 = .ok (.isub, 1) := by decide +kernel
theorem dX11_digest_41 : decode cX11_digest 41 = .ok (.iload 5, 2) := by decide +kernel
theorem dX11_digest_43 : decode cX11_digest 43 = .ok (.idiv, 1) := by decide +kernel
theorem dX11_digest_44 : decode cX11_digest 44 = .ok (.iload 5, 2) := by decide +kernel
theorem dX11_digest_46 : decode cX11_digest 46 = .ok (.imul, 1) := by decide +kernel
theorem dX11_digest_47 : decode cX11_digest 47 = .ok (.istore 6, 2) := by decide +kernel
theorem dX11_digest_49 : decode cX11_digest 49 = .ok (.iconst 0, 1) := by decide +kernel
theorem dX11_digest_50 : decode cX11_digest 50 = .ok (.istore 7, 2) := by decide +kernel
theorem dX11_digest_52 : decode cX11_digest 52 = .ok (.iload 7, 2) := by decide +kernel
theorem dX11_digest_54 : decode cX11_digest 54 = .ok (.iload 6, 2) := by decide +kernel
theorem dX11_digest_56 : decode cX11_digest 56 = .ok (.if_icmp .ge 73, 3) := by decide +kernel
theorem dX11_digest_59 : decode cX11_digest 59 = .ok (.aload_n 0, 1) := by decide +kernel
theorem dX11_digest_60 : decode cX11_digest 60 = .ok (.getfield 26, 3) := by decide +kernel
theorem dX11_digest_63 : decode cX11_digest 63 = .ok (.iload 7, 2) := by decide +kernel
theorem dX11_digest_65 : decode cX11_digest 65 = .ok (.iload 7, 2) := by decide +kernel
theorem dX11_digest_67 : decode cX11_digest 67 = .ok (.iload_n 3, 1) := by decide +kernel
theorem dX11_digest_68 : decode cX11_digest 68 = .ok (.if_icmp .ge 10, 3) := by decide +kernel
theorem dX11_digest_71 : decode cX11_digest 71 = .ok (.aload_n 2, 1) := by decide +kernel
theorem dX11_digest_72 : decode cX11_digest 72 = .ok (.iload 7, 2) := by decide +kernel
theorem dX11_digest_74 : decode cX11_digest 74 = .ok (.iaload, 1) := by decide +kernel
theorem dX11_digest_75 : decode cX11_digest 75 = .ok (.goto 47, 3) := by decide +kernel
theorem dX11_digest_78 : decode cX11_digest 78 = .ok (.iload 7, 2) := by decide +kernel
theorem dX11_digest_80 : decode cX11_digest 80 = .ok (.iload_n 3, 1) := by decide +kernel
theorem dX11_digest_81 : decode cX11_digest 81 = .ok (.if_icmp .ne 9, 3) := by decide +kernel
theorem dX11_digest_84 : decode cX11_digest 84 = .ok (.sipush 128, 3) := by decide +kernel
theorem dX11_digest_87 : decode cX11_digest 87 = .ok (.goto 35, 3) := by decide +kernel
theorem dX11_digest_90 : decode cX11_digest 90 = .ok (.iload 7, 2) := by decide +kernel
theorem dX11_digest_92 : decode cX11_digest 92 = .ok (.iload 6, 2) := by decide +kernel
theorem dX11_digest_94 : decode cX11_digest 94 = .ok (.iconst 4, 1) := by decide +kernel
theorem dX11_digest_95 : decode cX11_digest 95 = .ok (.isub, 1) := by decide +kernel
theorem dX11_digest_96 : decode cX11_digest 96 = .ok (.if_icmp .lt 25, 3) := by decide +kernel
theorem dX11_digest_99 : decode cX11_digest 99 = .ok (.bipush 8, 2) := by decide +kernel
theorem dX11_digest_101 : decode cX11_digest 101 = .ok (.iload_n 3, 1) := by decide +kernel
theorem dX11_digest_102 : decode cX11_digest 102 = .ok (.imul, 1) := by decide +kernel
theorem dX11_digest_103 : decode cX11_digest 103 = .ok (.bipush 8, 2) := by decide +kernel
theorem dX11_digest_105 : decode cX11_digest 105 = .ok (.iload 6, 2) := by decide +kernel
theorem dX11_digest_107 : decode cX11_digest 107 = .ok (.iconst 1, 1) := by decide +kernel
theorem dX11_digest_108 : decode cX11_digest 108 = .ok (.isub, 1) := by decide +kernel
theorem dX11_digest_109 : decode cX11_digest 109 = .ok (.iload 7, 2) := by decide +kernel
theorem dX11_digest_111 : decode cX11_digest 111 = .ok (.isub, 1) := by decide +kernel
theorem dX11_digest_112 : decode cX11_digest 112 = .ok (.imul, 1) := by decide +kernel
theorem dX11_digest_113 : decode cX11_digest 113 = .ok (.ishr, 1) := by decide +kernel
theorem dX11_digest_114 : decode cX11_digest 114 = .ok (.sipush 255, 3) := by decide +kernel
theorem dX11_digest_117 : decode cX11_digest 117 = .ok (.iand, 1) := by decide +kernel
theorem dX11_digest_118 : decode cX11_digest 118 = .ok (.goto 4, 3) := by decide +kernel
theorem dX11_digest_121 : decode cX11_digest 121 = .ok (.iconst 0, 1) := by decide +kernel
theorem dX11_digest_122 : decode cX11_digest 122 = .ok (.iastore, 1) := by decide +kernel
theorem dX11_digest_123 : decode cX11_digest 123 = .ok (.iinc 7 1, 3) := by decide +kernel
theorem dX11_digest_126 : decode cX11_digest 126 = .ok (.goto (-74), 3) := by decide +kernel
theorem dX11_digest_129 : decode cX11_digest 129 = .ok (.iconst 0, 1) := by decide +kernel
theorem dX11_digest_130 : decode cX11_digest 130 = .ok (.istore 7, 2) := by decide +kernel
theorem dX11_digest_132 : decode cX11_digest 132 = .ok (.iload 7, 2) := by decide +kernel
theorem dX11_digest_134 : decode cX11_digest 134 = .ok (.bipush 8, 2) := by decide +kernel
theorem dX11_digest_136 : decode cX11_digest 136 = .ok (.if_icmp .ge 40, 3) := by decide +kernel
theorem dX11_digest_139 : decode cX11_digest 139 = .ok (.aload_n 0, 1) := by decide +kernel
theorem dX11_digest_140 : decode cX11_digest 140 = .ok (.getfield 32, 3) := by decide +kernel
theorem dX11_digest_143 : decode cX11_digest 143 = .ok (.iload 7, 2) := by decide +kernel
theorem dX11_digest_145 : decode cX11_digest 145 = .ok (.iload_n 1, 1) := by decide +kernel
theorem dX11_digest_146 : decode cX11_digest 146 = .ok (.ifCond .eq 13, 3) := by decide +kernel
theorem dX11_digest_149 : decode cX11_digest 149 = .ok (.aload_n 0, 1) := by decide +kernel
theorem dX11_digest_150 : decode cX11_digest 150 = .ok (.getfield 13, 3) := by decide +kernel
theorem dX11_digest_153 : decode cX11_digest 153 = .ok (.iload 7, 2) := by decide +kernel
theorem dX11_digest_155 : decode cX11_digest 155 = .ok (.laload, 1) := by decide +kernel
theorem dX11_digest_156 : decode cX11_digest 156 = .ok (.goto 13, 3) := by decide +kernel
theorem dX11_digest_159 : decode cX11_digest 159 = .ok (.aload_n 0, 1) := by decide +kernel
theorem dX11_digest_160 : decode cX11_digest 160 = .ok (.getfield 13, 3) := by decide +kernel
theorem dX11_digest_163 : decode cX11_digest 163 = .ok (.iload 7, 2) := by decide +kernel
theorem dX11_digest_165 : decode cX11_digest 165 = .ok (.laload, 1) := by decide +kernel
theorem dX11_digest_166 : decode cX11_digest 166 = .ok (.bipush 32, 2) := by decide +kernel
theorem dX11_digest_168 : decode cX11_digest 168 = .ok (.lushr, 1) := by decide +kernel
theorem dX11_digest_169 : decode cX11_digest 169 = .ok (.lastore, 1) := by decide +kernel
theorem dX11_digest_170 : decode cX11_digest 170 = .ok (.iinc 7 1, 3) := by decide +kernel
theorem dX11_digest_173 : decode cX11_digest 173 = .ok (.goto (-41), 3) := by decide +kernel
theorem dX11_digest_176 : decode cX11_digest 176 = .ok (.iconst 0, 1) := by decide +kernel
theorem dX11_digest_177 : decode cX11_digest 177 = .ok (.istore 7, 2) := by decide +kernel
theorem dX11_digest_179 : decode cX11_digest 179 = .ok (.iload 7, 2) := by decide +kernel
theorem dX11_digest_181 : decode cX11_digest 181 = .ok (.iload 6, 2) := by decide +kernel
theorem dX11_digest_183 : decode cX11_digest 183 = .ok (.if_icmp .ge 21, 3) := by decide +kernel
theorem dX11_digest_186 : decode cX11_digest 186 = .ok (.aload_n 0, 1) := by decide +kernel
theorem dX11_digest_187 : decode cX11_digest 187 = .ok (.iload 4, 2) := by decide +kernel
theorem dX11_digest_189 : decode cX11_digest 189 = .ok (.iload 7, 2) := by decide +kernel
theorem dX11_digest_191 : decode cX11_digest 191 = .ok (.invokevirtual 151, 3) := by decide +kernel
theorem dX11_digest_194 : decode cX11_digest 194 = .ok (.iload 7, 2) := by decide +kernel
theorem dX11_digest_196 : decode cX11_digest 196 = .ok (.iload 5, 2) := by decide +kernel
theorem dX11_digest_198 : decode cX11_digest 198 = .ok (.iadd, 1) := by decide +kernel
theorem dX11_digest_199 : decode cX11_digest 199 = .ok (.istore 7, 2) := by decide +kernel
theorem dX11_digest_201 : decode cX11_digest 201 = .ok (.goto (-22), 3) := by decide +kernel
theorem dX11_digest_204 : decode cX11_digest 204 = .ok (.iload 4, 2) := by decide +kernel
theorem dX11_digest_206 : decode cX11_digest 206 = .ok (.bipush 8, 2) := by decide +kernel
theorem dX11_digest_208 : decode cX11_digest 208 = .ok (.idiv, 1) := by decide +kernel
theorem dX11_digest_209 : decode cX11_digest 209 = .ok (.istore 7, 2) := by decide +kernel
theorem dX11_digest_211 : decode cX11_digest 211 = .ok (.iconst 0, 1) := by decide +kernel
theorem dX11_digest_212 : decode cX11_digest 212 = .ok (.istore 8, 2) := by decide +kernel
theorem dX11_digest_214 : decode cX11_digest 214 = .ok (.iload 8, 2) := by decide +kernel
theorem dX11_digest_216 : decode cX11_digest 216 = .ok (.bipush 8, 2) := by decide +kernel
theorem dX11_digest_218 : decode cX11_digest 218 = .ok (.iload 7, 2) := by decide +kernel
theorem dX11_digest_220 : decode cX11_digest 220 = .ok (.imul, 1) := by decide +kernel
theorem dX11_digest_221 : decode cX11_digest 221 = .ok (.if_icmp .ge 45, 3) := by decide +kernel
theorem dX11_digest_224 : decode cX11_digest 224 = .ok (.aload_n 0, 1) := by decide +kernel
theorem dX11_digest_225 : decode cX11_digest 225 = .ok (.getfield 38, 3) := by decide +kernel
theorem dX11_digest_228 : decode cX11_digest 228 = .ok (.iload 8, 2) := by decide +kernel
theorem dX11_digest_230 : decode cX11_digest 230 = .ok (.aload_n 0, 1) := by decide +kernel
theorem dX11_digest_231 : decode cX11_digest 231 = .ok (.getfield 32, 3) := by decide +kernel
theorem dX11_digest_234 : decode cX11_digest 234 = .ok (.iload 8, 2) := by decide +kernel
theorem dX11_digest_236 : decode cX11_digest 236 = .ok (.iload 7, 2) := by decide +kernel
theorem dX11_digest_238 : decode cX11_digest 238 = .ok (.idiv, 1) := by decide +kernel
theorem dX11_digest_239 : decode cX11_digest 239 = .ok (.laload, 1) := by decide +kernel
theorem dX11_digest_240 : decode cX11_digest 240 = .ok (.bipush 8, 2) := by decide +kernel
theorem dX11_digest_242 : decode cX11_digest 242 = .ok (.iload 7, 2) := by decide +kernel
theorem dX11_digest_244 : decode cX11_digest 244 = .ok (.iconst 1, 1) := by decide +kernel
theorem dX11_digest_245 : decode cX11_digest 245 = .ok (.isub, 1) := by decide +kernel
theorem dX11_digest_246 : decode cX11_digest 246 = .ok (.iload 8, 2) := by decide +kernel
theorem dX11_digest_248 : decode cX11_digest 248 = .ok (.iload 7, 2) := by decide +kernel
theorem dX11_digest_250 : decode cX11_digest 250 = .ok (.irem, 1) := by decide +kernel
theorem dX11_digest_251 : decode cX11_digest 251 = .ok (.isub, 1) := by decide +kernel
theorem dX11_digest_252 : decode cX11_digest 252 = .ok (.imul, 1) := by decide +kernel
theorem dX11_digest_253 : decode cX11_digest 253 = .ok (.lushr, 1) := by decide +kernel
theorem dX11_digest_254 : decode cX11_digest 254 = .ok (.ldc2_w 155, 3) := by decide +kernel
theorem dX11_digest_257 : decode cX11_digest 257 = .ok (.land, 1) := by decide +kernel
theorem dX11_digest_258 : decode cX11_digest 258 = .ok (.l2i, 1) := by decide +kernel
theorem dX11_digest_259 : decode cX11_digest 259 = .ok (.iastore, 1) := by decide +kernel
theorem dX11_digest_260 : decode cX11_digest 260 = .ok (.iinc 8 1, 3) := by decide +kernel
theorem dX11_digest_263 : decode cX11_digest 263 = .ok (.goto (-49), 3) := by decide +kernel
theorem dX11_digest_266 : decode cX11_digest 266 = .ok (.return_, 1) := by decide +kernel
theorem dX11_round_0 : decode cX11_round 0 = .ok (.iload_n 1, 1) := by decide +kernel
theorem dX11_round_1 : decode cX11_round 1 = .ok (.bipush 8, 2) := by decide +kernel
theorem dX11_round_3 : decode cX11_round 3 = .ok (.idiv, 1) := by decide +kernel
theorem dX11_round_4 : decode cX11_round 4 = .ok (.istore_n 3, 1) := by decide +kernel
theorem dX11_round_5 : decode cX11_round 5 = .ok (.iload_n 1, 1) := by decide +kernel
theorem dX11_round_6 : decode cX11_round 6 = .ok (.bipush 64, 2) := by decide +kernel
theorem dX11_round_8 : decode cX11_round 8 = .ok (.if_icmp .ne 8, 3) := by decide +kernel
theorem dX11_round_11 : decode cX11_round 11 = .ok (.bipush 80, 2) := by decide +kernel
theorem dX11_round_13 : decode cX11_round 13 = .ok (.goto 5, 3) := by decide +kernel
theorem dX11_round_16 : decode cX11_round 16 = .ok (.bipush 64, 2) := by decide +kernel
theorem dX11_round_18 : decode cX11_round 18 = .ok (.istore 4, 2) := by decide +kernel
theorem dX11_round_20 : decode cX11_round 20 = .ok (.iconst 0, 1) := by decide +kernel
theorem dX11_round_21 : decode cX11_round 21 = .ok (.istore 5, 2) := by decide +kernel
theorem dX11_round_23 : decode cX11_round 23 = .ok (.iload 5, 2) := by decide +kernel
theorem dX11_round_25 : decode cX11_round 25 = .ok (.bipush 16, 2) := by decide +kernel
theorem dX11_round_27 : decode cX11_round 27 = .ok (.if_icmp .ge 65, 3) := by decide +kernel
theorem dX11_round_30 : decode cX11_round 30 = .ok (.aload_n 0, 1) := by decide +kernel
theorem dX11_round_31 : decode cX11_round 31 = .ok (.getfield 29, 3) := by decide +kernel
theorem dX11_round_34 : decode cX11_round 34 = .ok (.iload 5, 2) := by decide +kernel
theorem dX11_round_36 : decode cX11_round 36 = .ok (.lconst 0, 1) := by decide +kernel
theorem dX11_round_37 : decode cX11_round 37 = .ok (.lastore, 1) := by decide +kernel
theorem dX11_round_38 : decode cX11_round 38 = .ok (.iconst 0, 1) := by decide +kernel
theorem dX11_round_39 : decode cX11_round 39 = .ok (.istore 6, 2) := by decide +kernel
theorem dX11_round_41 : decode cX11_round 41 = .ok (.iload 6, 2) := by decide +kernel
theorem dX11_round_43 : decode cX11_round 43 = .ok (.iload_n 3, 1) := by decide +kernel
theorem dX11_round_44 : decode cX11_round 44 = .ok (.if_icmp .ge 42, 3) := by decide +kernel
theorem dX11_round_47 : decode cX11_round 47 = .ok (.aload_n 0, 1) := by decide +kernel
theorem dX11_round_48 : decode cX11_round 48 = .ok (.getfield 29, 3) := by decide +kernel
theorem dX11_round_51 : decode cX11_round 51 = .ok (.iload 5, 2) := by decide +kernel
theorem dX11_round_53 : decode cX11_round 53 = .ok (.aload_n 0, 1) := by decide +kernel
theorem dX11_round_54 : decode cX11_round 54 = .ok (.getfield 29, 3) := by decide +kernel
theorem dX11_round_57 : decode cX11_round 57 = .ok (.iload 5, 2) := by decide +kernel
theorem dX11_round_59 : decode cX11_round 59 = .ok (.laload, 1) := by decide +kernel
theorem dX11_round_60 : decode cX11_round 60 = .ok (.bipush 8, 2) := by decide +kernel
theorem dX11_round_62 : decode cX11_round 62 = .ok (.lshl, 1) := by decide +kernel
theorem dX11_round_63 : decode cX11_round 63 = .ok (.aload_n 0, 1) := by decide +kernel
theorem dX11_round_64 : decode cX11_round 64 = .ok (.getfield 26, 3) := by decide +kernel
theorem dX11_round_67 : decode cX11_round 67 = .ok (.iload_n 2, 1) := by decide +kernel
theorem dX11_round_68 : decode cX11_round 68 = .ok (.iload 5, 2) := by decide +kernel
theorem dX11_round_70 : decode cX11_round 70 = .ok (.iload_n 3, 1) := by decide +kernel
theorem dX11_round_71 : decode cX11_round 71 = .ok (.imul, 1) := by decide +kernel
theorem dX11_round_72 : decode cX11_round 72 = .ok (.iadd, 1) := by decide +kernel
theorem dX11_round_73 : decode cX11_round 73 = .ok (.iload 6, 2) := by decide +kernel
theorem dX11_round_75 : decode cX11_round 75 = .ok (.iadd, 1) := by decide +kernel
theorem dX11_round_76 : decode cX11_round 76 = .ok (.iaload, 1) := by decide +kernel
theorem dX11_round_77 : decode cX11_round 77 = .ok (.i2l, 1) := by decide +kernel
theorem dX11_round_78 : decode cX11_round 78 = .ok (.lor, 1) := by decide +kernel
theorem dX11_round_79 : decode cX11_round 79 = .ok (.lastore, 1) := by decide +kernel
theorem dX11_round_80 : decode cX11_round 80 = .ok (.iinc 6 1, 3) := by decide +kernel
theorem dX11_round_83 : decode cX11_round 83 = .ok (.goto (-42), 3) := by decide +kernel
theorem dX11_round_86 : decode cX11_round 86 = .ok (.iinc 5 1, 3) := by decide +kernel
theorem dX11_round_89 : decode cX11_round 89 = .ok (.goto (-66), 3) := by decide +kernel
theorem dX11_round_92 : decode cX11_round 92 = .ok (.bipush 16, 2) := by decide +kernel
theorem dX11_round_94 : decode cX11_round 94 = .ok (.istore 5, 2) := by decide +kernel
theorem dX11_round_96 : decode cX11_round 96 = .ok (.iload 5, 2) := by decide +kernel
theorem dX11_round_98 : decode cX11_round 98 = .ok (.iload 4, 2) := by decide +kernel
theorem dX11_round_100 : decode cX11_round 100 = .ok (.if_icmp .ge 72, 3) := by decide +kernel
theorem dX11_round_103 : decode cX11_round 103 = .ok (.aload_n 0, 1) := by decide +kernel
theorem dX11_round_104 : decode cX11_round 104 = .ok (.getfield 29, 3) := by decide +kernel
theorem dX11_round_107 : decode cX11_round 107 = .ok (.iload 5, 2) := by decide +kernel
theorem dX11_round_109 : decode cX11_round 109 = .ok (.aload_n 0, 1) := by decide +kernel
theorem dX11_round_110 : decode cX11_round 110 = .ok (.getfield 29, 3) := by decide +kernel
theorem dX11_round_113 : decode cX11_round 113 = .ok (.iload 5, 2) := by decide +kernel
theorem dX11_round_115 : decode cX11_round 115 = .ok (.iconst 2, 1) := by decide +kernel
theorem dX11_round_116 : decode cX11_round 116 = .ok (.isub, 1) := by decide +kernel
theorem dX11_round_117 : decode cX11_round 117 = .ok (.laload, 1) := by decide +kernel
theorem dX11_round_118 : decode cX11_round 118 = .ok (.iconst 3, 1) := by decide +kernel
theorem dX11_round_119 : decode cX11_round 119 = .ok (.iload_n 1, 1) := by decide +kernel
theorem dX11_round_120 : decode cX11_round 120 = .ok (.invokestatic 157, 3) := by decide +kernel
theorem dX11_round_123 : decode cX11_round 123 = .ok (.aload_n 0, 1) := by decide +kernel
theorem dX11_round_124 : decode cX11_round 124 = .ok (.getfield 29, 3) := by decide +kernel
theorem dX11_round_127 : decode cX11_round 127 = .ok (.iload 5, 2) := by decide +kernel
theorem dX11_round_129 : decode cX11_round 129 = .ok (.bipush 7, 2) := by decide +kernel
theorem dX11_round_131 : decode cX11_round 131 = .ok (.isub, 1) := by decide +kernel
theorem dX11_round_132 : decode cX11_round 132 = .ok (.laload, 1) := by decide +kernel
theorem dX11_round_133 : decode cX11_round 133 = .ok (.ladd, 1) := by decide +kernel
theorem dX11_round_134 : decode cX11_round 134 = .ok (.aload_n 0, 1) := by decide +kernel
theorem dX11_round_135 : decode cX11_round 135 = .ok (.getfield 29, 3) := by decide +kernel
theorem dX11_round_138 : decode cX11_round 138 = .ok (.iload 5, 2) := by decide +kernel
theorem dX11_round_140 : decode cX11_round 140 = .ok (.bipush 15, 2) := by decide +kernel
theorem dX11_round_142 : decode cX11_round 142 = .ok (.isub, 1) := by decide +kernel
theorem dX11_round_143 : decode cX11_round 143 = .ok (.laload, 1) := by decide +kernel
theorem dX11_round_144 : decode cX11_round 144 = .ok (.iconst 2, 1) := by decide +kernel
theorem dX11_round_145 : decode cX11_round 145 = .ok (.iload_n 1, 1) := by decide +kernel
theorem dX11_round_146 : decode cX11_round 146 = .ok (.invokestatic 157, 3) := by decide +kernel
theorem dX11_round_149 : decode cX11_round 149 = .ok (.ladd, 1) := by decide +kernel
theorem dX11_round_150 : decode cX11_round 150 = .ok (.aload_n 0, 1) := by decide +kernel
theorem dX11_round_151 : decode cX11_round 151 = .ok (.getfield 29, 3) := by decide +kernel
theorem dX11_round_154 : decode cX11_round 154 = .ok (.iload 5, 2) := by decide +kernel
theorem dX11_round_156 : decode cX11_round 156 = .ok (.bipush 16, 2) := by decide +kernel
theorem dX11_round_158 : decode cX11_round 158 = .ok (.isub, 1) := by decide +kernel
theorem dX11_round_159 : decode cX11_round 159 = .ok (.laload, 1) := by decide +kernel
theorem dX11_round_160 : decode cX11_round 160 = .ok (.ladd, 1) := by decide +kernel
theorem dX11_round_161 : decode cX11_round 161 = .ok (.iload_n 1, 1) := by decide +kernel
theorem dX11_round_162 : decode cX11_round 162 = .ok (.invokestatic 160, 3) := by decide +kernel
theorem dX11_round_165 : decode cX11_round 165 = .ok (.lastore, 1) := by decide +kernel
theorem dX11_round_166 : decode cX11_round 166 = .ok (.iinc 5 1, 3) := by decide +kernel
theorem dX11_round_169 : decode cX11_round 169 = .ok (.goto (-73), 3) := by decide +kernel
theorem dX11_round_172 : decode cX11_round 172 = .ok (.iconst 0, 1) := by decide +kernel
theorem dX11_round_173 : decode cX11_round 173 = .ok (.istore 5, 2) := by decide +kernel
theorem dX11_round_175 : decode cX11_round 175 = .ok (.iload 5, 2) := by decide +kernel
theorem dX11_round_177 : decode cX11_round 177 = .ok (.bipush 8, 2) := by decide +kernel
theorem dX11_round_179 : decode cX11_round 179 = .ok (.if_icmp .ge 23, 3) := by decide +kernel
theorem dX11_round_182 : decode cX11_round 182 = .ok (.aload_n 0, 1) := by decide +kernel
theorem dX11_round_183 : decode cX11_round 183 = .ok (.getfield 35, 3) := by decide +kernel
theorem dX11_round_186 : decode cX11_round 186 = .ok (.iload 5, 2) := by decide +kernel
theorem dX11_round_188 : decode cX11_round 188 = .ok (.aload_n 0, 1) := by decide +kernel
theorem dX11_round_189 : decode cX11_round 189 = .ok (.getfield 32, 3) := by decide +kernel
theorem dX11_round_192 : decode cX11_round 192 = .ok (.iload 5, 2) := by decide +kernel
theorem dX11_round_194 : decode cX11_round 194 = .ok (.laload, 1) := by decide +kernel
theorem dX11_round_195 : decode cX11_round 195 = .ok (.lastore, 1) := by decide +kernel
theorem dX11_round_196 : decode cX11_round 196 = .ok (.iinc 5 1, 3) := by decide +kernel
theorem dX11_round_199 : decode cX11_round 199 = .ok (.goto (-24), 3) := by decide +kernel
theorem dX11_round_202 : decode cX11_round 202 = .ok (.iconst 0, 1) := by decide +kernel
theorem dX11_round_203 : decode cX11_round 203 = .ok (.istore 5, 2) := by decide +kernel
theorem dX11_round_205 : decode cX11_round 205 = .ok (.iload 5, 2) := by decide +kernel
theorem dX11_round_207 : decode cX11_round 207 = .ok (.iload 4, 2) := by decide +kernel
theorem dX11_round_209 : decode cX11_round 209 = .ok (.if_icmp .ge 242, 3) := by decide +kernel
theorem dX11_round_212 : decode cX11_round 212 = .ok (.iload_n 1, 1) := by decide +kernel
theorem dX11_round_213 : decode cX11_round 213 = .ok (.bipush 64, 2) := by decide +kernel
theorem dX11_round_215 : decode cX11_round 215 = .ok (.if_icmp .ne 13, 3) := by decide +kernel
theorem dX11_round_218 : decode cX11_round 218 = .ok (.aload_n 0, 1) := by decide +kernel
theorem dX11_round_219 : decode cX11_round 219 = .ok (.getfield 7, 3) := by decide +kernel
theorem dX11_round_222 : decode cX11_round 222 = .ok (.iload 5, 2) := by decide +kernel
theorem dX11_round_224 : decode cX11_round 224 = .ok (.laload, 1) := by decide +kernel
theorem dX11_round_225 : decode cX11_round 225 = .ok (.goto 13, 3) := by decide +kernel
theorem dX11_round_228 : decode cX11_round 228 = .ok (.aload_n 0, 1) := by decide +kernel
theorem dX11_round_229 : decode cX11_round 229 = .ok (.getfield 7, 3) := by decide +kernel
theorem dX11_round_232 : decode cX11_round 232 = .ok (.iload 5, 2) := by decide +kernel
theorem dX11_round_234 : decode cX11_round 234 = .ok (.laload, 1) := by decide +kernel
theorem dX11_round_235 : decode cX11_round 235 = .ok (.bipush 32, 2) := by decide +kernel
theorem dX11_round_237 : decode cX11_round 237 = .ok (.lushr, 1) := by decide +kernel
theorem dX11_round_238 : decode cX11_round 238 = .ok (.lstore 6, 2) := by decide +kernel
theorem dX11_round_240 : decode cX11_round 240 = .ok (.aload_n 0, 1) := by decide +kernel
theorem dX11_round_241 : decode cX11_round 241 = .ok (.getfield 35, 3) := by decide +kernel
theorem dX11_round_244 : decode cX11_round 244 = .ok (.iconst 4, 1) := by decide +kernel
theorem dX11_round_245 : decode cX11_round 245 = .ok (.laload, 1) := by decide +kernel
theorem dX11_round_246 : decode cX11_round 246 = .ok (.aload_n 0, 1) := by decide +kernel
theorem dX11_round_247 : decode cX11_round 247 = .ok (.getfield 35, 3) := by decide +kernel
theorem dX11_round_250 : decode cX11_round 250 = .ok (.iconst 5, 1) := by decide +kernel
theorem dX11_round_251 : decode cX11_round 251 = .ok (.laload, 1) := by decide +kernel
theorem dX11_round_252 : decode cX11_round 252 = .ok (.land, 1) := by decide +kernel
theorem dX11_round_253 : decode cX11_round 253 = .ok (.aload_n 0, 1) := by decide +kernel
theorem dX11_round_254 : decode cX11_round 254 = .ok (.getfield 35, 3) := by decide +kernel
theorem dX11_round_257 : decode cX11_round 257 = .ok (.iconst 4, 1) := by decide +kernel
theorem dX11_round_258 : decode cX11_round 258 = .ok (.laload, 1) := by decide +kernel
theorem dX11_round_259 : decode cX11_round 259 = .ok (.ldc2_w 164, 3) := by decide +kernel
theorem dX11_round_262 : decode cX11_round 262 = .ok (.lxor, 1) := by decide +kernel
theorem dX11_round_263 : decode cX11_round 263 = .ok (.aload_n 0, 1) := by decide +kernel
theorem dX11_round_264 : decode cX11_round 264 = .ok (.getfield 35, 3) := by decide +kernel
theorem dX11_round_267 : decode cX11_round 267 = .ok (.bipush 6, 2) := by decide +kernel
theorem dX11_round_269 : decode cX11_round 269 = .ok (.laload, 1) := by decide +kernel
theorem dX11_round_270 : decode cX11_round 270 = .ok (.land, 1) := by decide +kernel
theorem dX11_round_271 : decode cX11_round 271 = .ok (.lxor, 1) := by decide +kernel
theorem dX11_round_272 : decode cX11_round 272 = .ok (.lstore 8, 2) := by decide +kernel
theorem dX11_round_274 : decode cX11_round 274 = .ok (.aload_n 0, 1) := by decide +kernel
theorem dX11_round_275 : decode cX11_round 275 = .ok (.getfield 35, 3) := by decide +kernel
theorem dX11_round_278 : decode cX11_round 278 = .ok (.iconst 0, 1) := by decide +kernel
theorem dX11_round_279 : decode cX11_round 279 = .ok (.laload, 1) := by decide +kernel
theorem dX11_round_280 : decode cX11_round 280 = .ok (.aload_n 0, 1) := by decide +kernel
theorem dX11_round_281 : decode cX11_round 281 = .ok (.getfield 35, 3) := by decide +kernel
theorem dX11_round_284 : decode cX11_round 284 = .ok (.iconst 1, 1) := by decide +kernel
theorem dX11_round_285 : decode cX11_round 285 = .ok (.laload, 1) := by decide +kernel
theorem dX11_round_286 : decode cX11_round 286 = .ok (.land, 1) := by decide +kernel
theorem dX11_round_287 : decode cX11_round 287 = .ok (.aload_n 0, 1) := by decide +kernel
theorem dX11_round_288 : decode cX11_round 288 = .ok (.getfield 35, 3) := by decide +kernel
theorem dX11_round_291 : decode cX11_round 291 = .ok (.iconst 0, 1) := by decide +kernel
theorem dX11_round_292 : decode cX11_round 292 = .ok (.laload, 1) := by decide +kernel
theorem dX11_round_293 : decode cX11_round 293 = .ok (.aload_n 0, 1) := by decide +kernel
theorem dX11_round_294 : decode cX11_round 294 = .ok (.getfield 35, 3) := by decide +kernel
theorem dX11_round_297 : decode cX11_round 297 = .ok (.iconst 2, 1) := by decide +kernel
theorem dX11_round_298 : decode cX11_round 298 = .ok (.laload, 1) := by decide +kernel
theorem dX11_round_299 : decode cX11_round 299 = .ok (.land, 1) := by decide +kernel
theorem dX11_round_300 : decode cX11_round 300 = .ok (.lxor, 1) := by decide +kernel
theorem dX11_round_301 : decode cX11_round 301 = .ok (.aload_n 0, 1) := by decide +kernel
theorem dX11_round_302 : decode cX11_round 302 = .ok (.getfield 35, 3) := by decide +kernel
theorem dX11_round_305 : decode cX11_round 305 = .ok (.iconst 1, 1) := by decide +kernel
theorem dX11_round_306 : decode cX11_round 306 = .ok (.laload, 1) := by decide +kernel
theorem dX11_round_307 : decode cX11_round 307 = .ok (.aload_n 0, 1) := by decide +kernel
theorem dX11_round_308 : decode cX11_round 308 = .ok (.getfield 35, 3) := by decide +kernel
theorem dX11_round_311 : decode cX11_round 311 = .ok (.iconst 2, 1) := by decide +kernel
theorem dX11_round_312 : decode cX11_round 312 = .ok (.laload, 1) := by decide +kernel
theorem dX11_round_313 : decode cX11_round 313 = .ok (.land, 1) := by decide +kernel
theorem dX11_round_314 : decode cX11_round 314 = .ok (.lxor, 1) := by decide +kernel
theorem dX11_round_315 : decode cX11_round 315 = .ok (.lstore 10, 2) := by decide +kernel
theorem dX11_round_317 : decode cX11_round 317 = .ok (.aload_n 0, 1) := by decide +kernel
theorem dX11_round_318 : decode cX11_round 318 = .ok (.getfield 35, 3) := by decide +kernel
theorem dX11_round_321 : decode cX11_round 321 = .ok (.bipush 7, 2) := by decide +kernel
theorem dX11_round_323 : decode cX11_round 323 = .ok (.laload, 1) := by decide +kernel
theorem dX11_round_324 : decode cX11_round 324 = .ok (.aload_n 0, 1) := by decide +kernel
theorem dX11_round_325 : decode cX11_round 325 = .ok (.getfield 35, 3) := by decide +kernel
theorem dX11_round_328 : decode cX11_round 328 = .ok (.iconst 4, 1) := by decide +kernel
theorem dX11_round_329 : decode cX11_round 329 = .ok (.laload, 1) := by decide +kernel
theorem dX11_round_330 : decode cX11_round 330 = .ok (.iconst 1, 1) := by decide +kernel
theorem dX11_round_331 : decode cX11_round 331 = .ok (.iload_n 1, 1) := by decide +kernel
theorem dX11_round_332 : decode cX11_round 332 = .ok (.invokestatic 157, 3) := by decide +kernel
theorem dX11_round_335 : decode cX11_round 335 = .ok (.ladd, 1) := by decide +kernel
theorem dX11_round_336 : decode cX11_round 336 = .ok (.lload 8, 2) := by decide +kernel
theorem dX11_round_338 : decode cX11_round 338 = .ok (.iload_n 1, 1) := by decide +kernel
theorem dX11_round_339 : decode cX11_round 339 = .ok (.invokestatic 160, 3) := by decide +kernel
theorem dX11_round_342 : decode cX11_round 342 = .ok (.ladd, 1) := by decide +kernel
theorem dX11_round_343 : decode cX11_round 343 = .ok (.lload 6, 2) := by decide +kernel
theorem dX11_round_345 : decode cX11_round 345 = .ok (.ladd, 1) := by decide +kernel
theorem dX11_round_346 : decode cX11_round 346 = .ok (.aload_n 0, 1) := by decide +kernel
theorem dX11_round_347 : decode cX11_round 347 = .ok (.getfield 29, 3) := by decide +kernel
theorem dX11_round_350 : decode cX11_round 350 = .ok (.iload 5, 2) := by decide +kernel
theorem dX11_round_352 : decode cX11_round 352 = .ok (.laload, 1) := by decide +kernel
theorem dX11_round_353 : decode cX11_round 353 = .ok (.ladd, 1) := by decide +kernel
theorem dX11_round_354 : decode cX11_round 354 = .ok (.iload_n 1, 1) := by decide +kernel
theorem dX11_round_355 : decode cX11_round 355 = .ok (.invokestatic 160, 3) := by decide +kernel
theorem dX11_round_358 : decode cX11_round 358 = .ok (.lstore 12, 2) := by decide +kernel
theorem dX11_round_360 : decode cX11_round 360 = .ok (.aload_n 0, 1) := by decide +kernel
theorem dX11_round_361 : decode cX11_round 361 = .ok (.getfield 35, 3) := by decide +kernel
theorem dX11_round_364 : decode cX11_round 364 = .ok (.iconst 0, 1) := by decide +kernel
theorem dX11_round_365 : decode cX11_round 365 = .ok (.laload, 1) := by decide +kernel
theorem dX11_round_366 : decode cX11_round 366 = .ok (.iconst 0, 1) := by decide +kernel
theorem dX11_round_367 : decode cX11_round 367 = .ok (.iload_n 1, 1) := by decide +kernel
theorem dX11_round_368 : decode cX11_round 368 = .ok (.invokestatic 157, 3) := by decide +kernel
theorem dX11_round_371 : decode cX11_round 371 = .ok (.lload 10, 2) := by decide +kernel
theorem dX11_round_373 : decode cX11_round 373 = .ok (.ladd, 1) := by decide +kernel
theorem dX11_round_374 : decode cX11_round 374 = .ok (.iload_n 1, 1) := by decide +kernel
theorem dX11_round_375 : decode cX11_round 375 = .ok (.invokestatic 160, 3) := by decide +kernel
theorem dX11_round_378 : decode cX11_round 378 = .ok (.lstore 14, 2) := by decide +kernel
theorem dX11_round_380 : decode cX11_round 380 = .ok (.bipush 7, 2) := by decide +kernel
theorem dX11_round_382 : decode cX11_round 382 = .ok (.istore 16, 2) := by decide +kernel
theorem dX11_round_384 : decode cX11_round 384 = .ok (.iload 16, 2) := by decide +kernel
theorem dX11_round_386 : decode cX11_round 386 = .ok (.ifCond .le 25, 3) := by decide +kernel
theorem dX11_round_389 : decode cX11_round 389 = .ok (.aload_n 0, 1) := by decide +kernel
theorem dX11_round_390 : decode cX11_round 390 = .ok (.getfield 35, 3) := by decide +kernel
theorem dX11_round_393 : decode cX11_round 393 = .ok (.iload 16, 2) := by decide +kernel
theorem dX11_round_395 : decode cX11_round 395 = .ok (.aload_n 0, 1) := by decide +kernel
theorem dX11_round_396 : decode cX11_round 396 = .ok (.getfield 35, 3) := by decide +kernel
theorem dX11_round_399 : decode cX11_round 399 = .ok (.iload 16, 2) := by decide +kernel
theorem dX11_round_401 : decode cX11_round 401 = .ok (.iconst 1, 1) := by decide +kernel
theorem dX11_round_402 : decode cX11_round 402 = .ok (.isub, 1) := by decide +kernel
theorem dX11_round_403 : decode cX11_round 403 = .ok (.laload, 1) := by decide +kernel
theorem dX11_round_404 : decode cX11_round 404 = .ok (.lastore, 1) := by decide +kernel
theorem dX11_round_405 : decode cX11_round 405 = .ok (.iinc 16 (-1), 3) := by decide +kernel
theorem dX11_round_408 : decode cX11_round 408 = .ok (.goto (-24), 3) := by decide +kernel
theorem dX11_round_411 : decode cX11_round 411 = .ok (.aload_n 0, 1) := by decide +kernel
theorem dX11_round_412 : decode cX11_round 412 = .ok (.getfield 35, 3) := by decide +kernel
theorem dX11_round_415 : decode cX11_round 415 = .ok (.iconst 4, 1) := by decide +kernel
theorem dX11_round_416 : decode cX11_round 416 = .ok (.aload_n 0, 1) := by decide +kernel
theorem dX11_round_417 : decode cX11_round 417 = .ok (.getfield 35, 3) := by decide +kernel
theorem dX11_round_420 : decode cX11_round 420 = .ok (.iconst 4, 1) := by decide +kernel
theorem dX11_round_421 : decode cX11_round 421 = .ok (.laload, 1) := by decide +kernel
theorem dX11_round_422 : decode cX11_round 422 = .ok (.lload 12, 2) := by decide +kernel
theorem dX11_round_424 : decode cX11_round 424 = .ok (.ladd, 1) := by decide +kernel
theorem dX11_round_425 : decode cX11_round 425 = .ok (.iload_n 1, 1) := by decide +kernel
theorem dX11_round_426 : decode cX11_round 426 = .ok (.invokestatic 160, 3) := by decide +kernel
theorem dX11_round_429 : decode cX11_round 429 = .ok (.lastore, 1) := by decide +kernel
theorem dX11_round_430 : decode cX11_round 430 = .ok (.aload_n 0, 1) := by decide +kernel
theorem dX11_round_431 : decode cX11_round 431 = .ok (.getfield 35, 3) := by decide +kernel
theorem dX11_round_434 : decode cX11_round 434 = .ok (.iconst 0, 1) := by decide +kernel
theorem dX11_round_435 : decode cX11_round 435 = .ok (.lload 12, 2) := by decide +kernel
theorem dX11_round_437 : decode cX11_round 437 = .ok (.lload 14, 2) := by decide +kernel
theorem dX11_round_439 : decode cX11_round 439 = .ok (.ladd, 1) := by decide +kernel
theorem dX11_round_440 : decode cX11_round 440 = .ok (.iload_n 1, 1) := by decide +kernel
theorem dX11_round_441 : decode cX11_round 441 = .ok (.invokestatic 160, 3) := by decide +kernel
theorem dX11_round_444 : decode cX11_round 444 = .ok (.lastore, 1) := by decide +kernel
theorem dX11_round_445 : decode cX11_round 445 = .ok (.iinc 5 1, 3) := by decide +kernel
theorem dX11_round_448 : decode cX11_round 448 = .ok (.goto (-243), 3) := by decide +kernel
theorem dX11_round_451 : decode cX11_round 451 = .ok (.iconst 0, 1) := by decide +kernel
theorem dX11_round_452 : decode cX11_round 452 = .ok (.istore 5, 2) := by decide +kernel
theorem dX11_round_454 : decode cX11_round 454 = .ok (.iload 5, 2) := by decide +kernel
theorem dX11_round_456 : decode cX11_round 456 = .ok (.bipush 8, 2) := by decide +kernel
theorem dX11_round_458 : decode cX11_round 458 = .ok (.if_icmp .ge 35, 3) := by decide +kernel
theorem dX11_round_461 : decode cX11_round 461 = .ok (.aload_n 0, 1) := by decide +kernel
theorem dX11_round_462 : decode cX11_round 462 = .ok (.getfield 32, 3) := by decide +kernel
theorem dX11_round_465 : decode cX11_round 465 = .ok (.iload 5, 2) := by decide +kernel
theorem dX11_round_467 : decode cX11_round 467 = .ok (.aload_n 0, 1) := by decide +kernel
theorem dX11_round_468 : decode cX11_round 468 = .ok (.getfield 32, 3) := by decide +kernel
theorem dX11_round_471 : decode cX11_round 471 = .ok (.iload 5, 2) := by decide +kernel
theorem dX11_round_473 : decode cX11_round 473 = .ok (.laload, 1) := by decide +kernel
theorem dX11_round_474 : decode cX11_round 474 = .ok (.aload_n 0, 1) := by decide +kernel
theorem dX11_round_475 : decode cX11_round 475 = .ok (.getfield 35, 3) := by decide +kernel
theorem dX11_round_478 : decode cX11_round 478 = .ok (.iload 5, 2) := by decide +kernel
theorem dX11_round_480 : decode cX11_round 480 = .ok (.laload, 1) := by decide +kernel
theorem dX11_round_481 : decode cX11_round 481 = .ok (.ladd, 1) := by decide +kernel
theorem dX11_round_482 : decode cX11_round 482 = .ok (.iload_n 1, 1) := by decide +kernel
theorem dX11_round_483 : decode cX11_round 483 = .ok (.invokestatic 160, 3) := by decide +kernel
theorem dX11_round_486 : decode cX11_round 486 = .ok (.lastore, 1) := by decide +kernel
theorem dX11_round_487 : decode cX11_round 487 = .ok (.iinc 5 1, 3) := by decide +kernel
theorem dX11_round_490 : decode cX11_round 490 = .ok (.goto (-36), 3) := by decide +kernel
theorem dX11_round_493 : decode cX11_round 493 = .ok (.return_, 1) := by decide +kernel
theorem dX11_mac_0 : decode cX11_mac 0 = .ok (.iload_n 1, 1) := by decide +kernel
theorem dX11_mac_1 : decode cX11_mac 1 = .ok (.ifCond .eq 9, 3) := by decide +kernel
theorem dX11_mac_4 : decode cX11_mac 4 = .ok (.sipush 128, 3) := by decide +kernel
theorem dX11_mac_7 : decode cX11_mac 7 = .ok (.goto 5, 3) := by decide +kernel
theorem dX11_mac_10 : decode cX11_mac 10 = .ok (.bipush 64, 2) := by decide +kernel
theorem dX11_mac_12 : decode cX11_mac 12 = .ok (.istore 5, 2) := by decide +kernel
theorem dX11_mac_14 : decode cX11_mac 14 = .ok (.iload_n 1, 1) := by decide +kernel
theorem dX11_mac_15 : decode cX11_mac 15 = .ok (.invokestatic 166, 3) := by decide +kernel
theorem dX11_mac_18 : decode cX11_mac 18 = .ok (.istore 6, 2) := by decide +kernel
theorem dX11_mac_20 : decode cX11_mac 20 = .ok (.iconst 0, 1) := by decide +kernel
theorem dX11_mac_21 : decode cX11_mac 21 = .ok (.istore 7, 2) := by decide +kernel
theorem dX11_mac_23 : decode cX11_mac 23 = .ok (.iload 7, 2) := by decide +kernel
theorem dX11_mac_25 : decode cX11_mac 25 = .ok (.iload 5, 2) := by decide +kernel
theorem dX11_mac_27 : decode cX11_mac 27 = .ok (.if_icmp .ge 34, 3) := by decide +kernel
theorem dX11_mac_30 : decode cX11_mac 30 = .ok (.aload_n 0, 1) := by decide +kernel
theorem dX11_mac_31 : decode cX11_mac 31 = .ok (.getfield 41, 3) := by decide +kernel
theorem dX11_mac_34 : decode cX11_mac 34 = .ok (.iload 7, 2) := by decide +kernel
theorem dX11_mac_36 : decode cX11_mac 36 = .ok (.iload 7, 2) := by decide +kernel
theorem dX11_mac_38 : decode cX11_mac 38 = .ok (.iload 6, 2) := by decide +kernel
theorem dX11_mac_40 : decode cX11_mac 40 = .ok (.if_icmp .ge 10, 3) := by decide +kernel
theorem dX11_mac_43 : decode cX11_mac 43 = .ok (.aload_n 2, 1) := by decide +kernel
theorem dX11_mac_44 : decode cX11_mac 44 = .ok (.iload 7, 2) := by decide +kernel
theorem dX11_mac_46 : decode cX11_mac 46 = .ok (.iaload, 1) := by decide +kernel
theorem dX11_mac_47 : decode cX11_mac 47 = .ok (.goto 4, 3) := by decide +kernel
theorem dX11_mac_50 : decode cX11_mac 50 = .ok (.iconst 0, 1) := by decide +kernel
theorem dX11_mac_51 : decode cX11_mac 51 = .ok (.bipush 54, 2) := by decide +kernel
theorem dX11_mac_53 : decode cX11_mac 53 = .ok (.ixor, 1) := by decide +kernel
theorem dX11_mac_54 : decode cX11_mac 54 = .ok (.iastore, 1) := by decide +kernel
theorem dX11_mac_55 : decode cX11_mac 55 = .ok (.iinc 7 1, 3) := by decide +kernel
theorem dX11_mac_58 : decode cX11_mac 58 = .ok (.goto (-35), 3) := by decide +kernel
theorem dX11_mac_61 : decode cX11_mac 61 = .ok (.iconst 0, 1) := by decide +kernel
theorem dX11_mac_62 : decode cX11_mac 62 = .ok (.istore 7, 2) := by decide +kernel
theorem dX11_mac_64 : decode cX11_mac 64 = .ok (.iload 7, 2) := by decide +kernel
theorem dX11_mac_66 : decode cX11_mac 66 = .ok (.iload 4, 2) := by decide +kernel
theorem dX11_mac_68 : decode cX11_mac 68 = .ok (.if_icmp .ge 23, 3) := by decide +kernel
theorem dX11_mac_71 : decode cX11_mac 71 = .ok (.aload_n 0, 1) := by decide +kernel
theorem dX11_mac_72 : decode cX11_mac 72 = .ok (.getfield 41, 3) := by decide +kernel
theorem dX11_mac_75 : decode cX11_mac 75 = .ok (.iload 5, 2) := by decide +kernel
theorem dX11_mac_77 : decode cX11_mac 77 = .ok (.iload 7, 2) := by decide +kernel
theorem dX11_mac_79 : decode cX11_mac 79 = .ok (.iadd, 1) := by decide +kernel
theorem dX11_mac_80 : decode cX11_mac 80 = .ok (.aload_n 3, 1) := by decide +kernel
theorem dX11_mac_81 : decode cX11_mac 81 = .ok (.iload 7, 2) := by decide +kernel
theorem dX11_mac_83 : decode cX11_mac 83 = .ok (.iaload, 1) := by decide +kernel
theorem dX11_mac_84 : decode cX11_mac 84 = .ok (.iastore, 1) := by decide +kernel
theorem dX11_mac_85 : decode cX11_mac 85 = .ok (.iinc 7 1, 3) := by decide +kernel
theorem dX11_mac_88 : decode cX11_mac 88 = .ok (.goto (-24), 3) := by decide +kernel
theorem dX11_mac_91 : decode cX11_mac 91 = .ok (.aload_n 0, 1) := by decide +kernel
theorem dX11_mac_92 : decode cX11_mac 92 = .ok (.iload_n 1, 1) := by decide +kernel
theorem dX11_mac_93 : decode cX11_mac 93 = .ok (.aload_n 0, 1) := by decide +kernel
theorem dX11_mac_94 : decode cX11_mac 94 = .ok (.getfield 41, 3) := by decide +kernel
theorem dX11_mac_97 : decode cX11_mac 97 = .ok (.iload 5, 2) := by decide +kernel
theorem dX11_mac_99 : decode cX11_mac 99 = .ok (.iload 4, 2) := by decide +kernel
theorem dX11_mac_101 : decode cX11_mac 101 = .ok (.iadd, 1) := by decide +kernel
theorem dX11_mac_102 : decode cX11_mac 102 = .ok (.invokevirtual 170, 3) := by decide +kernel
theorem dX11_mac_105 : decode cX11_mac 105 = .ok (.iconst 0, 1) := by decide +kernel
theorem dX11_mac_106 : decode cX11_mac 106 = .ok (.istore 7, 2) := by decide +kernel
theorem dX11_mac_108 : decode cX11_mac 108 = .ok (.iload 7, 2) := by decide +kernel
theorem dX11_mac_110 : decode cX11_mac 110 = .ok (.iload 5, 2) := by decide +kernel
theorem dX11_mac_112 : decode cX11_mac 112 = .ok (.if_icmp .ge 34, 3) := by decide +kernel
theorem dX11_mac_115 : decode cX11_mac 115 = .ok (.aload_n 0, 1) := by decide +kernel
theorem dX11_mac_116 : decode cX11_mac 116 = .ok (.getfield 41, 3) := by decide +kernel
theorem dX11_mac_119 : decode cX11_mac 119 = .ok (.iload 7, 2) := by decide +kernel
theorem dX11_mac_121 : decode cX11_mac 121 = .ok (.iload 7, 2) := by decide +kernel
theorem dX11_mac_123 : decode cX11_mac 123 = .ok (.iload 6, 2) := by decide +kernel
theorem dX11_mac_125 : decode cX11_mac 125 = .ok (.if_icmp .ge 10, 3) := by decide +kernel
theorem dX11_mac_128 : decode cX11_mac 128 = .ok (.aload_n 2, 1) := by decide +kernel
theorem dX11_mac_129 : decode cX11_mac 129 = .ok (.iload 7, 2) := by decide +kernel
theorem dX11_mac_131 : decode cX11_mac 131 = .ok (.iaload, 1) := by decide +kernel
theorem dX11_mac_132 : decode cX11_mac 132 = .ok (.goto 4, 3) := by decide +kernel
theorem dX11_mac_135 : decode cX11_mac 135 = .ok (.iconst 0, 1) := by decide +kernel
theorem dX11_mac_136 : decode cX11_mac 136 = .ok (.bipush 92, 2) := by decide +kernel
theorem dX11_mac_138 : decode cX11_mac 138 = .ok (.ixor, 1) := by decide +kernel
theorem dX11_mac_139 : decode cX11_mac 139 = .ok (.iastore, 1) := by decide +kernel
theorem dX11_mac_140 : decode cX11_mac 140 = .ok (.iinc 7 1, 3) := by decide +kernel
theorem dX11_mac_143 : decode cX11_mac 143 = .ok (.goto (-35), 3) := by decide +kernel
theorem dX11_mac_146 : decode cX11_mac 146 = .ok (.iconst 0, 1) := by decide +kernel
theorem dX11_mac_147 : decode cX11_mac 147 = .ok (.istore 7, 2) := by decide +kernel
theorem dX11_mac_149 : decode cX11_mac 149 = .ok (.iload 7, 2) := by decide +kernel
theorem dX11_mac_151 : decode cX11_mac 151 = .ok (.iload 6, 2) := by decide +kernel
theorem dX11_mac_153 : decode cX11_mac 153 = .ok (.if_icmp .ge 26, 3) := by decide +kernel
theorem dX11_mac_156 : decode cX11_mac 156 = .ok (.aload_n 0, 1) := by decide +kernel
theorem dX11_mac_157 : decode cX11_mac 157 = .ok (.getfield 41, 3) := by decide +kernel
theorem dX11_mac_160 : decode cX11_mac 160 = .ok (.iload 5, 2) := by decide +kernel
theorem dX11_mac_162 : decode cX11_mac 162 = .ok (.iload 7, 2) := by decide +kernel
theorem dX11_mac_164 : decode cX11_mac 164 = .ok (.iadd, 1) := by decide +kernel
theorem dX11_mac_165 : decode cX11_mac 165 = .ok (.aload_n 0, 1) := by decide +kernel
theorem dX11_mac_166 : decode cX11_mac 166 = .ok (.getfield 38, 3) := by decide +kernel
theorem dX11_mac_169 : decode cX11_mac 169 = .ok (.iload 7, 2) := by decide +kernel
theorem dX11_mac_171 : decode cX11_mac 171 = .ok (.iaload, 1) := by decide +kernel
theorem dX11_mac_172 : decode cX11_mac 172 = .ok (.iastore, 1) := by decide +kernel
theorem dX11_mac_173 : decode cX11_mac 173 = .ok (.iinc 7 1, 3) := by decide +kernel
theorem dX11_mac_176 : decode cX11_mac 176 = .ok (.goto (-27), 3) := by decide +kernel
theorem dX11_mac_179 : decode cX11_mac 179 = .ok (.aload_n 0, 1) := by decide +kernel
theorem dX11_mac_180 : decode cX11_mac 180 = .ok (.iload_n 1, 1) := by decide +kernel
theorem dX11_mac_181 : decode cX11_mac 181 = .ok (.aload_n 0, 1) := by decide +kernel
theorem dX11_mac_182 : decode cX11_mac 182 = .ok (.getfield 41, 3) := by decide +kernel
theorem dX11_mac_185 : decode cX11_mac 185 = .ok (.iload 5, 2) := by decide +kernel
theorem dX11_mac_187 : decode cX11_mac 187 = .ok (.iload 6, 2) := by decide +kernel
theorem dX11_mac_189 : decode cX11_mac 189 = .ok (.iadd, 1) := by decide +kernel
theorem dX11_mac_190 : decode cX11_mac 190 = .ok (.invokevirtual 170, 3) := by decide +kernel
theorem dX11_mac_193 : decode cX11_mac 193 = .ok (.return_, 1) := by decide +kernel
theorem dX11_number_0 : decode cX11_number 0 = .ok (.iconst 0, 1) := by decide +kernel
theorem dX11_number_1 : decode cX11_number 1 = .ok (.istore 4, 2) := by decide +kernel
theorem dX11_number_3 : decode cX11_number 3 = .ok (.iload 4, 2) := by decide +kernel
theorem dX11_number_5 : decode cX11_number 5 = .ok (.iload_n 3, 1) := by decide +kernel
theorem dX11_number_6 : decode cX11_number 6 = .ok (.if_icmp .ge 30, 3) := by decide +kernel
theorem dX11_number_9 : decode cX11_number 9 = .ok (.aload_n 0, 1) := by decide +kernel
theorem dX11_number_10 : decode cX11_number 10 = .ok (.iload_n 1, 1) := by decide +kernel
theorem dX11_number_11 : decode cX11_number 11 = .ok (.iload 4, 2) := by decide +kernel
theorem dX11_number_13 : decode cX11_number 13 = .ok (.iadd, 1) := by decide +kernel
theorem dX11_number_14 : decode cX11_number 14 = .ok (.iload_n 2, 1) := by decide +kernel
theorem dX11_number_15 : decode cX11_number 15 = .ok (.bipush 8, 2) := by decide +kernel
theorem dX11_number_17 : decode cX11_number 17 = .ok (.iload_n 3, 1) := by decide +kernel
theorem dX11_number_18 : decode cX11_number 18 = .ok (.iconst 1, 1) := by decide +kernel
theorem dX11_number_19 : decode cX11_number 19 = .ok (.isub, 1) := by decide +kernel
theorem dX11_number_20 : decode cX11_number 20 = .ok (.iload 4, 2) := by decide +kernel
theorem dX11_number_22 : decode cX11_number 22 = .ok (.isub, 1) := by decide +kernel
theorem dX11_number_23 : decode cX11_number 23 = .ok (.imul, 1) := by decide +kernel
theorem dX11_number_24 : decode cX11_number 24 = .ok (.iushr, 1) := by decide +kernel
theorem dX11_number_25 : decode cX11_number 25 = .ok (.sipush 255, 3) := by decide +kernel
theorem dX11_number_28 : decode cX11_number 28 = .ok (.iand, 1) := by decide +kernel
theorem dX11_number_29 : decode cX11_number 29 = .ok (.iastore, 1) := by decide +kernel
theorem dX11_number_30 : decode cX11_number 30 = .ok (.iinc 4 1, 3) := by decide +kernel
theorem dX11_number_33 : decode cX11_number 33 = .ok (.goto (-30), 3) := by decide +kernel
theorem dX11_number_36 : decode cX11_number 36 = .ok (.return_, 1) := by decide +kernel
theorem dX11_derive_0 : decode cX11_derive 0 = .ok (.iload_n 1, 1) := by decide +kernel
theorem dX11_derive_1 : decode cX11_derive 1 = .ok (.invokestatic 166, 3) := by decide +kernel
theorem dX11_derive_4 : decode cX11_derive 4 = .ok (.istore 6, 2) := by decide +kernel
theorem dX11_derive_6 : decode cX11_derive 6 = .ok (.iconst 0, 1) := by decide +kernel
theorem dX11_derive_7 : decode cX11_derive 7 = .ok (.istore 7, 2) := by decide +kernel
theorem dX11_derive_9 : decode cX11_derive 9 = .ok (.iload 7, 2) := by decide +kernel
theorem dX11_derive_11 : decode cX11_derive 11 = .ok (.iload_n 3, 1) := by decide +kernel
theorem dX11_derive_12 : decode cX11_derive 12 = .ok (.if_icmp .ge 22, 3) := by decide +kernel
theorem dX11_derive_15 : decode cX11_derive 15 = .ok (.aload_n 0, 1) := by decide +kernel
theorem dX11_derive_16 : decode cX11_derive 16 = .ok (.getfield 44, 3) := by decide +kernel
theorem dX11_derive_19 : decode cX11_derive 19 = .ok (.iconst 5, 1) := by decide +kernel
theorem dX11_derive_20 : decode cX11_derive 20 = .ok (.iload 7, 2) := by decide +kernel
theorem dX11_derive_22 : decode cX11_derive 22 = .ok (.iadd, 1) := by decide +kernel
theorem dX11_derive_23 : decode cX11_derive 23 = .ok (.aload_n 2, 1) := by decide +kernel
theorem dX11_derive_24 : decode cX11_derive 24 = .ok (.iload 7, 2) := by decide +kernel
theorem dX11_derive_26 : decode cX11_derive 26 = .ok (.iaload, 1) := by decide +kernel
theorem dX11_derive_27 : decode cX11_derive 27 = .ok (.iastore, 1) := by decide +kernel
theorem dX11_derive_28 : decode cX11_derive 28 = .ok (.iinc 7 1, 3) := by decide +kernel
theorem dX11_derive_31 : decode cX11_derive 31 = .ok (.goto (-22), 3) := by decide +kernel
theorem dX11_derive_34 : decode cX11_derive 34 = .ok (.aload_n 0, 1) := by decide +kernel
theorem dX11_derive_35 : decode cX11_derive 35 = .ok (.getfield 44, 3) := by decide +kernel
theorem dX11_derive_38 : decode cX11_derive 38 = .ok (.iconst 1, 1) := by decide +kernel
theorem dX11_derive_39 : decode cX11_derive 39 = .ok (.bipush 8, 2) := by decide +kernel
theorem dX11_derive_41 : decode cX11_derive 41 = .ok (.iload 5, 2) := by decide +kernel
theorem dX11_derive_43 : decode cX11_derive 43 = .ok (.imul, 1) := by decide +kernel
theorem dX11_derive_44 : decode cX11_derive 44 = .ok (.iconst 4, 1) := by decide +kernel
theorem dX11_derive_45 : decode cX11_derive 45 = .ok (.invokestatic 174, 3) := by decide +kernel
theorem dX11_derive_48 : decode cX11_derive 48 = .ok (.iconst 0, 1) := by decide +kernel
theorem dX11_derive_49 : decode cX11_derive 49 = .ok (.istore 7, 2) := by decide +kernel
theorem dX11_derive_51 : decode cX11_derive 51 = .ok (.iload 7, 2) := by decide +kernel
theorem dX11_derive_53 : decode cX11_derive 53 = .ok (.iload 5, 2) := by decide +kernel
theorem dX11_derive_55 : decode cX11_derive 55 = .ok (.if_icmp .ge 79, 3) := by decide +kernel
theorem dX11_derive_58 : decode cX11_derive 58 = .ok (.aload_n 0, 1) := by decide +kernel
theorem dX11_derive_59 : decode cX11_derive 59 = .ok (.getfield 44, 3) := by decide +kernel
theorem dX11_derive_62 : decode cX11_derive 62 = .ok (.iconst 0, 1) := by decide +kernel
theorem dX11_derive_63 : decode cX11_derive 63 = .ok (.iload 7, 2) := by decide +kernel
theorem dX11_derive_65 : decode cX11_derive 65 = .ok (.iload 6, 2) := by decide +kernel
theorem dX11_derive_67 : decode cX11_derive 67 = .ok (.idiv, 1) := by decide +kernel
theorem dX11_derive_68 : decode cX11_derive 68 = .ok (.iconst 1, 1) := by decide +kernel
theorem dX11_derive_69 : decode cX11_derive 69 = .ok (.iadd, 1) := by decide +kernel
theorem dX11_derive_70 : decode cX11_derive 70 = .ok (.iastore, 1) := by decide +kernel
theorem dX11_derive_71 : decode cX11_derive 71 = .ok (.aload_n 0, 1) := by decide +kernel
theorem dX11_derive_72 : decode cX11_derive 72 = .ok (.iload_n 1, 1) := by decide +kernel
theorem dX11_derive_73 : decode cX11_derive 73 = .ok (.aload_n 0, 1) := by decide +kernel
theorem dX11_derive_74 : decode cX11_derive 74 = .ok (.getfield 44, 3) := by decide +kernel
theorem dX11_derive_77 : decode cX11_derive 77 = .ok (.iconst 5, 1) := by decide +kernel
theorem dX11_derive_78 : decode cX11_derive 78 = .ok (.iload_n 3, 1) := by decide +kernel
theorem dX11_derive_79 : decode cX11_derive 79 = .ok (.iadd, 1) := by decide +kernel
theorem dX11_derive_80 : decode cX11_derive 80 = .ok (.invokevirtual 170, 3) := by decide +kernel
theorem dX11_derive_83 : decode cX11_derive 83 = .ok (.iconst 0, 1) := by decide +kernel
theorem dX11_derive_84 : decode cX11_derive 84 = .ok (.istore 8, 2) := by decide +kernel
theorem dX11_derive_86 : decode cX11_derive 86 = .ok (.iload 8, 2) := by decide +kernel
theorem dX11_derive_88 : decode cX11_derive 88 = .ok (.iload 6, 2) := by decide +kernel
theorem dX11_derive_90 : decode cX11_derive 90 = .ok (.if_icmp .ge 34, 3) := by decide +kernel
theorem dX11_derive_93 : decode cX11_derive 93 = .ok (.iload 7, 2) := by decide +kernel
theorem dX11_derive_95 : decode cX11_derive 95 = .ok (.iload 8, 2) := by decide +kernel
theorem dX11_derive_97 : decode cX11_derive 97 = .ok (.iadd, 1) := by decide +kernel
theorem dX11_derive_98 : decode cX11_derive 98 = .ok (.iload 5, 2) := by decide +kernel
theorem dX11_derive_100 : decode cX11_derive 100 = .ok (.if_icmp .ge 24, 3) := by decide +kernel
theorem dX11_derive_103 : decode cX11_derive 103 = .ok (.aload 4, 2) := by decide +kernel
theorem dX11_derive_105 : decode cX11_derive 105 = .ok (.iload 7, 2) := by decide +kernel
theorem dX11_derive_107 : decode cX11_derive 107 = .ok (.iload 8, 2) := by decide +kernel
theorem dX11_derive_109 : decode cX11_derive 109 = .ok (.iadd, 1) := by decide +kernel
theorem dX11_derive_110 : decode cX11_derive 110 = .ok (.aload_n 0, 1) := by decide +kernel
theorem dX11_derive_111 : decode cX11_derive 111 = .ok (.getfield 38, 3) := by decide +kernel
theorem dX11_derive_114 : decode cX11_derive 114 = .ok (.iload 8, 2) := by decide +kernel
theorem dX11_derive_116 : decode cX11_derive 116 = .ok (.iaload, 1) := by decide +kernel
theorem dX11_derive_117 : decode cX11_derive 117 = .ok (.iastore, 1) := by decide +kernel
theorem dX11_derive_118 : decode cX11_derive 118 = .ok (.iinc 8 1, 3) := by decide +kernel
theorem dX11_derive_121 : decode cX11_derive 121 = .ok (.goto (-35), 3) := by decide +kernel
theorem dX11_derive_124 : decode cX11_derive 124 = .ok (.iload 7, 2) := by decide +kernel
theorem dX11_derive_126 : decode cX11_derive 126 = .ok (.iload 6, 2) := by decide +kernel
theorem dX11_derive_128 : decode cX11_derive 128 = .ok (.iadd, 1) := by decide +kernel
theorem dX11_derive_129 : decode cX11_derive 129 = .ok (.istore 7, 2) := by decide +kernel
theorem dX11_derive_131 : decode cX11_derive 131 = .ok (.goto (-80), 3) := by decide +kernel
theorem dX11_derive_134 : decode cX11_derive 134 = .ok (.return_, 1) := by decide +kernel
theorem dX11_times_0 : decode cX11_times 0 = .ok (.iconst 0, 1) := by decide +kernel
theorem dX11_times_1 : decode cX11_times 1 = .ok (.istore_n 2, 1) := by decide +kernel
theorem dX11_times_2 : decode cX11_times 2 = .ok (.iload_n 0, 1) := by decide +kernel
theorem dX11_times_3 : decode cX11_times 3 = .ok (.istore_n 3, 1) := by decide +kernel
theorem dX11_times_4 : decode cX11_times 4 = .ok (.iconst 0, 1) := by decide +kernel
theorem dX11_times_5 : decode cX11_times 5 = .ok (.istore 4, 2) := by decide +kernel
theorem dX11_times_7 : decode cX11_times 7 = .ok (.iload 4, 2) := by decide +kernel
theorem dX11_times_9 : decode cX11_times 9 = .ok (.bipush 8, 2) := by decide +kernel
theorem dX11_times_11 : decode cX11_times 11 = .ok (.if_icmp .ge 41, 3) := by decide +kernel
theorem dX11_times_14 : decode cX11_times 14 = .ok (.iload_n 1, 1) := by decide +kernel
theorem dX11_times_15 : decode cX11_times 15 = .ok (.iload 4, 2) := by decide +kernel
theorem dX11_times_17 : decode cX11_times 17 = .ok (.ishr, 1) := by decide +kernel
theorem dX11_times_18 : decode cX11_times 18 = .ok (.iconst 1, 1) := by decide +kernel
theorem dX11_times_19 : decode cX11_times 19 = .ok (.iand, 1) := by decide +kernel
theorem dX11_times_20 : decode cX11_times 20 = .ok (.iconst 1, 1) := by decide +kernel
theorem dX11_times_21 : decode cX11_times 21 = .ok (.if_icmp .ne 7, 3) := by decide +kernel
theorem dX11_times_24 : decode cX11_times 24 = .ok (.iload_n 2, 1) := by decide +kernel
theorem dX11_times_25 : decode cX11_times 25 = .ok (.iload_n 3, 1) := by decide +kernel
theorem dX11_times_26 : decode cX11_times 26 = .ok (.ixor, 1) := by decide +kernel
theorem dX11_times_27 : decode cX11_times 27 = .ok (.istore_n 2, 1) := by decide +kernel
theorem dX11_times_28 : decode cX11_times 28 = .ok (.iload_n 3, 1) := by decide +kernel
theorem dX11_times_29 : decode cX11_times 29 = .ok (.iconst 1, 1) := by decide +kernel
theorem dX11_times_30 : decode cX11_times 30 = .ok (.ishl, 1) := by decide +kernel
theorem dX11_times_31 : decode cX11_times 31 = .ok (.iload_n 3, 1) := by decide +kernel
theorem dX11_times_32 : decode cX11_times 32 = .ok (.bipush 127, 2) := by decide +kernel
theorem dX11_times_34 : decode cX11_times 34 = .ok (.if_icmp .le 9, 3) := by decide +kernel
theorem dX11_times_37 : decode cX11_times 37 = .ok (.sipush 283, 3) := by decide +kernel
theorem dX11_times_40 : decode cX11_times 40 = .ok (.goto 4, 3) := by decide +kernel
theorem dX11_times_43 : decode cX11_times 43 = .ok (.iconst 0, 1) := by decide +kernel
theorem dX11_times_44 : decode cX11_times 44 = .ok (.ixor, 1) := by decide +kernel
theorem dX11_times_45 : decode cX11_times 45 = .ok (.istore_n 3, 1) := by decide +kernel
theorem dX11_times_46 : decode cX11_times 46 = .ok (.iinc 4 1, 3) := by decide +kernel
theorem dX11_times_49 : decode cX11_times 49 = .ok (.goto (-42), 3) := by decide +kernel
theorem dX11_times_52 : decode cX11_times 52 = .ok (.iload_n 2, 1) := by decide +kernel
theorem dX11_times_53 : decode cX11_times 53 = .ok (.ireturn, 1) := by decide +kernel
theorem dX11_boxed_0 : decode cX11_boxed 0 = .ok (.iconst 0, 1) := by decide +kernel
theorem dX11_boxed_1 : decode cX11_boxed 1 = .ok (.istore_n 1, 1) := by decide +kernel
theorem dX11_boxed_2 : decode cX11_boxed 2 = .ok (.iconst 1, 1) := by decide +kernel
theorem dX11_boxed_3 : decode cX11_boxed 3 = .ok (.istore_n 2, 1) := by decide +kernel
theorem dX11_boxed_4 : decode cX11_boxed 4 = .ok (.iload_n 2, 1) := by decide +kernel
theorem dX11_boxed_5 : decode cX11_boxed 5 = .ok (.sipush 256, 3) := by decide +kernel
theorem dX11_boxed_8 : decode cX11_boxed 8 = .ok (.if_icmp .ge 24, 3) := by decide +kernel
theorem dX11_boxed_11 : decode cX11_boxed 11 = .ok (.iload_n 0, 1) := by decide +kernel
theorem dX11_boxed_12 : decode cX11_boxed 12 = .ok (.ifCond .le 20, 3) := by decide +kernel
theorem dX11_boxed_15 : decode cX11_boxed 15 = .ok (.iload_n 0, 1) := by decide +kernel
theorem dX11_boxed_16 : decode cX11_boxed 16 = .ok (.iload_n 2, 1) := by decide +kernel
theorem dX11_boxed_17 : decode cX11_boxed 17 = .ok (.invokestatic 178, 3) := by decide +kernel
theorem dX11_boxed_20 : decode cX11_boxed 20 = .ok (.iconst 1, 1) := by decide +kernel
theorem dX11_boxed_21 : decode cX11_boxed 21 = .ok (.if_icmp .ne 5, 3) := by decide +kernel
theorem dX11_boxed_24 : decode cX11_boxed 24 = .ok (.iload_n 2, 1) := by decide +kernel
theorem dX11_boxed_25 : decode cX11_boxed 25 = .ok (.istore_n 1, 1) := by decide +kernel
theorem dX11_boxed_26 : decode cX11_boxed 26 = .ok (.iinc 2 1, 3) := by decide +kernel
theorem dX11_boxed_29 : decode cX11_boxed 29 = .ok (.goto (-25), 3) := by decide +kernel
theorem dX11_boxed_32 : decode cX11_boxed 32 = .ok (.bipush 99, 2) := by decide +kernel
theorem dX11_boxed_34 : decode cX11_boxed 34 = .ok (.istore_n 2, 1) := by decide +kernel
theorem dX11_boxed_35 : decode cX11_boxed 35 = .ok (.iconst 0, 1) := by decide +kernel
theorem dX11_boxed_36 : decode cX11_boxed 36 = .ok (.istore_n 3, 1) := by decide +kernel
theorem dX11_boxed_37 : decode cX11_boxed 37 = .ok (.iload_n 3, 1) := by decide +kernel
theorem dX11_boxed_38 : decode cX11_boxed 38 = .ok (.iconst 5, 1) := by decide +kernel
theorem dX11_boxed_39 : decode cX11_boxed 39 = .ok (.if_icmp .ge 26, 3) := by decide +kernel
theorem dX11_boxed_42 : decode cX11_boxed 42 = .ok (.iload_n 2, 1) := by decide +kernel
theorem dX11_boxed_43 : decode cX11_boxed 43 = .ok (.iload_n 1, 1) := by decide +kernel
theorem dX11_boxed_44 : decode cX11_boxed 44 = .ok (.iload_n 3, 1) := by decide +kernel
theorem dX11_boxed_45 : decode cX11_boxed 45 = .ok (.ishl, 1) := by decide +kernel
theorem dX11_boxed_46 : decode cX11_boxed 46 = .ok (.iload_n 1, 1) := by decide +kernel
theorem dX11_boxed_47 : decode cX11_boxed 47 = .ok (.bipush 8, 2) := by decide +kernel
theorem dX11_boxed_49 : decode cX11_boxed 49 = .ok (.iload_n 3, 1) := by decide +kernel
theorem dX11_boxed_50 : decode cX11_boxed 50 = .ok (.isub, 1) := by decide +kernel
theorem dX11_boxed_51 : decode cX11_boxed 51 = .ok (.ishr, 1) := by decide +kernel
theorem dX11_boxed_52 : decode cX11_boxed 52 = .ok (.ior, 1) := by decide +kernel
theorem dX11_boxed_53 : decode cX11_boxed 53 = .ok (.sipush 255, 3) := by decide +kernel
theorem dX11_boxed_56 : decode cX11_boxed 56 = .ok (.iand, 1) := by decide +kernel
theorem dX11_boxed_57 : decode cX11_boxed 57 = .ok (.ixor, 1) := by decide +kernel
theorem dX11_boxed_58 : decode cX11_boxed 58 = .ok (.istore_n 2, 1) := by decide +kernel
theorem dX11_boxed_59 : decode cX11_boxed 59 = .ok (.iinc 3 1, 3) := by decide +kernel
theorem dX11_boxed_62 : decode cX11_boxed 62 = .ok (.goto (-25), 3) := by decide +kernel
theorem dX11_boxed_65 : decode cX11_boxed 65 = .ok (.iload_n 2, 1) := by decide +kernel
theorem dX11_boxed_66 : decode cX11_boxed 66 = .ok (.ireturn, 1) := by decide +kernel
theorem dX11_spread_0 : decode cX11_spread 0 = .ok (.iload_n 2, 1) := by decide +kernel
theorem dX11_spread_1 : decode cX11_spread 1 = .ok (.iconst 4, 1) := by decide +kernel
theorem dX11_spread_2 : decode cX11_spread 2 = .ok (.idiv, 1) := by decide +kernel
theorem dX11_spread_3 : decode cX11_spread 3 = .ok (.bipush 6, 2) := by decide +kernel
theorem dX11_spread_5 : decode cX11_spread 5 = .ok (.iadd, 1) := by decide +kernel
theorem dX11_spread_6 : decode cX11_spread 6 = .ok (.istore_n 3, 1) := by decide +kernel
theorem dX11_spread_7 : decode cX11_spread 7 = .ok (.iconst 1, 1) := by decide +kernel
theorem dX11_spread_8 : decode cX11_spread 8 = .ok (.istore 4, 2) := by decide +kernel
theorem dX11_spread_10 : decode cX11_spread 10 = .ok (.iconst 0, 1) := by decide +kernel
theorem dX11_spread_11 : decode cX11_spread 11 = .ok (.istore 5, 2) := by decide +kernel
theorem dX11_spread_13 : decode cX11_spread 13 = .ok (.iload 5, 2) := by decide +kernel
theorem dX11_spread_15 : decode cX11_spread 15 = .ok (.bipush 16, 2) := by decide +kernel
theorem dX11_spread_17 : decode cX11_spread 17 = .ok (.iload_n 3, 1) := by decide +kernel
theorem dX11_spread_18 : decode cX11_spread 18 = .ok (.iconst 1, 1) := by decide +kernel
theorem dX11_spread_19 : decode cX11_spread 19 = .ok (.iadd, 1) := by decide +kernel
theorem dX11_spread_20 : decode cX11_spread 20 = .ok (.imul, 1) := by decide +kernel
theorem dX11_spread_21 : decode cX11_spread 21 = .ok (.if_icmp .ge 169, 3) := by decide +kernel
theorem dX11_spread_24 : decode cX11_spread 24 = .ok (.iload 5, 2) := by decide +kernel
theorem dX11_spread_26 : decode cX11_spread 26 = .ok (.iload_n 2, 1) := by decide +kernel
theorem dX11_spread_27 : decode cX11_spread 27 = .ok (.if_icmp .ge 17, 3) := by decide +kernel
theorem dX11_spread_30 : decode cX11_spread 30 = .ok (.aload_n 0, 1) := by decide +kernel
theorem dX11_spread_31 : decode cX11_spread 31 = .ok (.getfield 50, 3) := by decide +kernel
theorem dX11_spread_34 : decode cX11_spread 34 = .ok (.iload 5, 2) := by decide +kernel
theorem dX11_spread_36 : decode cX11_spread 36 = .ok (.aload_n 1, 1) := by decide +kernel
theorem dX11_spread_37 : decode cX11_spread 37 = .ok (.iload 5, 2) := by decide +kernel
theorem dX11_spread_39 : decode cX11_spread 39 = .ok (.iaload, 1) := by decide +kernel
theorem dX11_spread_40 : decode cX11_spread 40 = .ok (.iastore, 1) := by decide +kernel
theorem dX11_spread_41 : decode cX11_spread 41 = .ok (.goto 143, 3) := by decide +kernel
theorem dX11_spread_44 : decode cX11_spread 44 = .ok (.iload 5, 2) := by decide +kernel
theorem dX11_spread_46 : decode cX11_spread 46 = .ok (.iconst 4, 1) := by decide +kernel
theorem dX11_spread_47 : decode cX11_spread 47 = .ok (.idiv, 1) := by decide +kernel
theorem dX11_spread_48 : decode cX11_spread 48 = .ok (.iload_n 2, 1) := by decide +kernel
theorem dX11_spread_49 : decode cX11_spread 49 = .ok (.iconst 4, 1) := by decide +kernel
theorem dX11_spread_50 : decode cX11_spread 50 = .ok (.idiv, 1) := by decide +kernel
theorem dX11_spread_51 : decode cX11_spread 51 = .ok (.irem, 1) := by decide +kernel
theorem dX11_spread_52 : decode cX11_spread 52 = .ok (.istore 6, 2) := by decide +kernel
theorem dX11_spread_54 : decode cX11_spread 54 = .ok (.iload 5, 2) := by decide +kernel
theorem dX11_spread_56 : decode cX11_spread 56 = .ok (.iconst 4, 1) := by decide +kernel
theorem dX11_spread_57 : decode cX11_spread 57 = .ok (.isub, 1) := by decide +kernel
theorem dX11_spread_58 : decode cX11_spread 58 = .ok (.istore 7, 2) := by decide +kernel
theorem dX11_spread_60 : decode cX11_spread 60 = .ok (.aload_n 0, 1) := by decide +kernel
theorem dX11_spread_61 : decode cX11_spread 61 = .ok (.getfield 50, 3) := by decide +kernel
theorem dX11_spread_64 : decode cX11_spread 64 = .ok (.iload 7, 2) := by decide +kernel
theorem dX11_spread_66 : decode cX11_spread 66 = .ok (.iaload, 1) := by decide +kernel
theorem dX11_spread_67 : decode cX11_spread 67 = .ok (.istore 8, 2) := by decide +kernel
theorem dX11_spread_69 : decode cX11_spread 69 = .ok (.iload 6, 2) := by decide +kernel
theorem dX11_spread_71 : decode cX11_spread 71 = .ok (.ifCond .ne 52, 3) := by decide +kernel
theorem dX11_spread_74 : decode cX11_spread 74 = .ok (.aload_n 0, 1) := by decide +kernel
theorem dX11_spread_75 : decode cX11_spread 75 = .ok (.getfield 47, 3) := by decide +kernel
theorem dX11_spread_78 : decode cX11_spread 78 = .ok (.aload_n 0, 1) := by decide +kernel
theorem dX11_spread_79 : decode cX11_spread 79 = .ok (.getfield 50, 3) := by decide +kernel
theorem dX11_spread_82 : decode cX11_spread 82 = .ok (.iload 5, 2) := by decide +kernel
theorem dX11_spread_84 : decode cX11_spread 84 = .ok (.iconst 4, 1) := by decide +kernel
theorem dX11_spread_85 : decode cX11_spread 85 = .ok (.irem, 1) := by decide +kernel
theorem dX11_spread_86 : decode cX11_spread 86 = .ok (.iconst 3, 1) := by decide +kernel
theorem dX11_spread_87 : decode cX11_spread 87 = .ok (.if_icmp .ne 11, 3) := by decide +kernel
theorem dX11_spread_90 : decode cX11_spread 90 = .ok (.iload 5, 2) := by decide +kernel
theorem dX11_spread_92 : decode cX11_spread 92 = .ok (.bipush 7, 2) := by decide +kernel
theorem dX11_spread_94 : decode cX11_spread 94 = .ok (.isub, 1) := by decide +kernel
theorem dX11_spread_95 : decode cX11_spread 95 = .ok (.goto 7, 3) := by decide +kernel
theorem dX11_spread_98 : decode cX11_spread 98 = .ok (.iload 5, 2) := by decide +kernel
theorem dX11_spread_100 : decode cX11_spread 100 = .ok (.iconst 3, 1) := by decide +kernel
theorem dX11_spread_101 : decode cX11_spread 101 = .ok (.isub, 1) := by decide +kernel
theorem dX11_spread_102 : decode cX11_spread 102 = .ok (.iaload, 1) := by decide +kernel
theorem dX11_spread_103 : decode cX11_spread 103 = .ok (.iaload, 1) := by decide +kernel
theorem dX11_spread_104 : decode cX11_spread 104 = .ok (.iload 5, 2) := by decide +kernel
theorem dX11_spread_106 : decode cX11_spread 106 = .ok (.iconst 4, 1) := by decide +kernel
theorem dX11_spread_107 : decode cX11_spread 107 = .ok (.irem, 1) := by decide +kernel
theorem dX11_spread_108 : decode cX11_spread 108 = .ok (.ifCond .ne 8, 3) := by decide +kernel
theorem dX11_spread_111 : decode cX11_spread 111 = .ok (.iload 4, 2) := by decide +kernel
theorem dX11_spread_113 : decode cX11_spread 113 = .ok (.goto 4, 3) := by decide +kernel
theorem dX11_spread_116 : decode cX11_spread 116 = .ok (.iconst 0, 1) := by decide +kernel
theorem dX11_spread_117 : decode cX11_spread 117 = .ok (.ixor, 1) := by decide +kernel
theorem dX11_spread_118 : decode cX11_spread 118 = .ok (.istore 8, 2) := by decide +kernel
theorem dX11_spread_120 : decode cX11_spread 120 = .ok (.goto 24, 3) := by decide +kernel
theorem dX11_spread_123 : decode cX11_spread 123 = .ok (.iload_n 2, 1) := by decide +kernel
theorem dX11_spread_124 : decode cX11_spread 124 = .ok (.bipush 32, 2) := by decide +kernel
theorem dX11_spread_126 : decode cX11_spread 126 = .ok (.if_icmp .ne 18, 3) := by decide +kernel
theorem dX11_spread_129 : decode cX11_spread 129 = .ok (.iload 6, 2) := by decide +kernel
theorem dX11_spread_131 : decode cX11_spread 131 = .ok (.iconst 4, 1) := by decide +kernel
theorem dX11_spread_132 : decode cX11_spread 132 = .ok (.if_icmp .ne 12, 3) := by decide +kernel
theorem dX11_spread_135 : decode cX11_spread 135 = .ok (.aload_n 0, 1) := by decide +kernel
theorem dX11_spread_136 : decode cX11_spread 136 = .ok (.getfield 47, 3) := by decide +kernel
theorem dX11_spread_139 : decode cX11_spread 139 = .ok (.iload 8, 2) := by decide +kernel
theorem dX11_spread_141 : decode cX11_spread 141 = .ok (.iaload, 1) := by decide +kernel
theorem dX11_spread_142 : decode cX11_spread 142 = .ok (.istore 8, 2) := by decide +kernel
theorem dX11_spread_144 : decode cX11_spread 144 = .ok (.aload_n 0, 1) := by decide +kernel
theorem dX11_spread_145 : decode cX11_spread 145 = .ok (.getfield 50, 3) := by decide +kernel
theorem dX11_spread_148 : decode cX11_spread 148 = .ok (.iload 5, 2) := by decide +kernel
theorem dX11_spread_150 : decode cX11_spread 150 = .ok (.aload_n 0, 1) := by decide +kernel
theorem dX11_spread_151 : decode cX11_spread 151 = .ok (.getfield 50, 3) := by decide +kernel
theorem dX11_spread_154 : decode cX11_spread 154 = .ok (.iload 5, 2) := by decide +kernel
theorem dX11_spread_156 : decode cX11_spread 156 = .ok (.iload_n 2, 1) := by decide +kernel
theorem dX11_spread_157 : decode cX11_spread 157 = .ok (.isub, 1) := by decide +kernel
theorem dX11_spread_158 : decode cX11_spread 158 = .ok (.iaload, 1) := by decide +kernel
theorem dX11_spread_159 : decode cX11_spread 159 = .ok (.iload 8, 2) := by decide +kernel
theorem dX11_spread_161 : decode cX11_spread 161 = .ok (.ixor, 1) := by decide +kernel
theorem dX11_spread_162 : decode cX11_spread 162 = .ok (.iastore, 1) := by decide +kernel
theorem dX11_spread_163 : decode cX11_spread 163 = .ok (.iload 6, 2) := by decide +kernel
theorem dX11_spread_165 : decode cX11_spread 165 = .ok (.ifCond .ne 19, 3) := by decide +kernel
theorem dX11_spread_168 : decode cX11_spread 168 = .ok (.iload 5, 2) := by decide +kernel
theorem dX11_spread_170 : decode cX11_spread 170 = .ok (.iconst 4, 1) := by decide +kernel
theorem dX11_spread_171 : decode cX11_spread 171 = .ok (.irem, 1) := by decide +kernel
theorem dX11_spread_172 : decode cX11_spread 172 = .ok (.iconst 3, 1) := by decide +kernel
theorem dX11_spread_173 : decode cX11_spread 173 = .ok (.if_icmp .ne 11, 3) := by decide +kernel
theorem dX11_spread_176 : decode cX11_spread 176 = .ok (.iload 4, 2) := by decide +kernel
theorem dX11_spread_178 : decode cX11_spread 178 = .ok (.iconst 2, 1) := by decide +kernel
theorem dX11_spread_179 : decode cX11_spread 179 = .ok (.invokestatic 178, 3) := by decide +kernel
theorem dX11_spread_182 : decode cX11_spread 182 = .ok (.istore 4, 2) := by decide +kernel
theorem dX11_spread_184 : decode cX11_spread 184 = .ok (.iinc 5 1, 3) := by decide +kernel
theorem dX11_spread_187 : decode cX11_spread 187 = .ok (.goto (-174), 3) := by decide +kernel
theorem dX11_spread_190 : decode cX11_spread 190 = .ok (.return_, 1) := by decide +kernel
theorem dX11_cipher_0 : decode cX11_cipher 0 = .ok (.aload_n 0, 1) := by decide +kernel
theorem dX11_cipher_1 : decode cX11_cipher 1 = .ok (.aload_n 1, 1) := by decide +kernel
theorem dX11_cipher_2 : decode cX11_cipher 2 = .ok (.iload_n 2, 1) := by decide +kernel
theorem dX11_cipher_3 : decode cX11_cipher 3 = .ok (.invokevirtual 182, 3) := by decide +kernel
theorem dX11_cipher_6 : decode cX11_cipher 6 = .ok (.iload_n 2, 1) := by decide +kernel
theorem dX11_cipher_7 : decode cX11_cipher 7 = .ok (.iconst 4, 1) := by decide +kernel
theorem dX11_cipher_8 : decode cX11_cipher 8 = .ok (.idiv, 1) := by decide +kernel
theorem dX11_cipher_9 : decode cX11_cipher 9 = .ok (.bipush 6, 2) := by decide +kernel
theorem dX11_cipher_11 : decode cX11_cipher 11 = .ok (.iadd, 1) := by decide +kernel
theorem dX11_cipher_12 : decode cX11_cipher 12 = .ok (.istore 4, 2) := by decide +kernel
theorem dX11_cipher_14 : decode cX11_cipher 14 = .ok (.iconst 0, 1) := by decide +kernel
theorem dX11_cipher_15 : decode cX11_cipher 15 = .ok (.istore 5, 2) := by decide +kernel
theorem dX11_cipher_17 : decode cX11_cipher 17 = .ok (.iload 5, 2) := by decide +kernel
theorem dX11_cipher_19 : decode cX11_cipher 19 = .ok (.bipush 16, 2) := by decide +kernel
theorem dX11_cipher_21 : decode cX11_cipher 21 = .ok (.if_icmp .ge 23, 3) := by decide +kernel
theorem dX11_cipher_24 : decode cX11_cipher 24 = .ok (.aload_n 3, 1) := by decide +kernel
theorem dX11_cipher_25 : decode cX11_cipher 25 = .ok (.iload 5, 2) := by decide +kernel
theorem dX11_cipher_27 : decode cX11_cipher 27 = .ok (.dup2, 1) := by decide +kernel
theorem dX11_cipher_28 : decode cX11_cipher 28 = .ok (.iaload, 1) := by decide +kernel
theorem dX11_cipher_29 : decode cX11_cipher 29 = .ok (.aload_n 0, 1) := by decide +kernel
theorem dX11_cipher_30 : decode cX11_cipher 30 = .ok (.getfield 50, 3) := by decide +kernel
theorem dX11_cipher_33 : decode cX11_cipher 33 = .ok (.iload 5, 2) := by decide +kernel
theorem dX11_cipher_35 : decode cX11_cipher 35 = .ok (.iaload, 1) := by decide +kernel
theorem dX11_cipher_36 : decode cX11_cipher 36 = .ok (.ixor, 1) := by decide +kernel
theorem dX11_cipher_37 : decode cX11_cipher 37 = .ok (.iastore, 1) := by decide +kernel
theorem dX11_cipher_38 : decode cX11_cipher 38 = .ok (.iinc 5 1, 3) := by decide +kernel
theorem dX11_cipher_41 : decode cX11_cipher 41 = .ok (.goto (-24), 3) := by decide +kernel
theorem dX11_cipher_44 : decode cX11_cipher 44 = .ok (.iconst 1, 1) := by decide +kernel
theorem dX11_cipher_45 : decode cX11_cipher 45 = .ok (.istore 5, 2) := by decide +kernel
theorem dX11_cipher_47 : decode cX11_cipher 47 = .ok (.iload 5, 2) := by decide +kernel
theorem dX11_cipher_49 : decode cX11_cipher 49 = .ok (.iload 4, 2) := by decide +kernel
theorem dX11_cipher_51 : decode cX11_cipher 51 = .ok (.if_icmp .gt 173, 3) := by decide +kernel
theorem dX11_cipher_54 : decode cX11_cipher 54 = .ok (.iconst 0, 1) := by decide +kernel
theorem dX11_cipher_55 : decode cX11_cipher 55 = .ok (.istore 6, 2) := by decide +kernel
theorem dX11_cipher_57 : decode cX11_cipher 57 = .ok (.iload 6, 2) := by decide +kernel
theorem dX11_cipher_59 : decode cX11_cipher 59 = .ok (.bipush 16, 2) := by decide +kernel
theorem dX11_cipher_61 : decode cX11_cipher 61 = .ok (.if_icmp .ge 35, 3) := by decide +kernel
theorem dX11_cipher_64 : decode cX11_cipher 64 = .ok (.aload_n 0, 1) := by decide +kernel
theorem dX11_cipher_65 : decode cX11_cipher 65 = .ok (.getfield 53, 3) := by decide +kernel
theorem dX11_cipher_68 : decode cX11_cipher 68 = .ok (.iload 6, 2) := by decide +kernel
theorem dX11_cipher_70 : decode cX11_cipher 70 = .ok (.aload_n 0, 1) := by decide +kernel
theorem dX11_cipher_71 : decode cX11_cipher 71 = .ok (.getfield 47, 3) := by decide +kernel
theorem dX11_cipher_74 : decode cX11_cipher 74 = .ok (.aload_n 3, 1) := by decide +kernel
theorem dX11_cipher_75 : decode cX11_cipher 75 = .ok (.iload 6, 2) := by decide +kernel
theorem dX11_cipher_77 : decode cX11_cipher 77 = .ok (.iconst 4, 1) := by decide +kernel
theorem dX11_cipher_78 : decode cX11_cipher 78 = .ok (.iload 6, 2) := by decide +kernel
theorem dX11_cipher_80 : decode cX11_cipher 80 = .ok (.iconst 4, 1) := by decide +kernel
theorem dX11_cipher_81 : decode cX11_cipher 81 = .ok (.irem, 1) := by decide +kernel
theorem dX11_cipher_82 : decode cX11_cipher 82 = .ok (.imul, 1) := by decide +kernel
theorem dX11_cipher_83 : decode cX11_cipher 83 = .ok (.iadd, 1) := by decide +kernel
theorem dX11_cipher_84 : decode cX11_cipher 84 = .ok (.bipush 16, 2) := by decide +kernel
theorem dX11_cipher_86 : decode cX11_cipher 86 = .ok (.irem, 1) := by decide +kernel
theorem dX11_cipher_87 : decode cX11_cipher 87 = .ok (.iaload, 1) := by decide +kernel
theorem dX11_cipher_88 : decode cX11_cipher 88 = .ok (.iaload, 1) := by decide +kernel
theorem dX11_cipher_89 : decode cX11_cipher 89 = .ok (.iastore, 1) := by decide +kernel
theorem dX11_cipher_90 : decode cX11_cipher 90 = .ok (.iinc 6 1, 3) := by decide +kernel
theorem dX11_cipher_93 : decode cX11_cipher 93 = .ok (.goto (-36), 3) := by decide +kernel
theorem dX11_cipher_96 : decode cX11_cipher 96 = .ok (.iconst 0, 1) := by decide +kernel
theorem dX11_cipher_97 : decode cX11_cipher 97 = .ok (.istore 6, 2) := by decide +kernel
theorem dX11_cipher_99 : decode cX11_cipher 99 = .ok (.iload 6, 2) := by decide +kernel
theorem dX11_cipher_101 : decode cX11_cipher 101 = .ok (.bipush 16, 2) := by decide +kernel
theorem dX11_cipher_103 : decode cX11_cipher 103 = .ok (.if_icmp .ge 115, 3) := by decide +kernel
theorem dX11_cipher_106 : decode cX11_cipher 106 = .ok (.iload 6, 2) := by decide +kernel
theorem dX11_cipher_108 : decode cX11_cipher 108 = .ok (.iconst 4, 1) := by decide +kernel
theorem dX11_cipher_109 : decode cX11_cipher 109 = .ok (.idiv, 1) := by decide +kernel
theorem dX11_cipher_110 : decode cX11_cipher 110 = .ok (.iconst 4, 1) := by decide +kernel
theorem dX11_cipher_111 : decode cX11_cipher 111 = .ok (.imul, 1) := by decide +kernel
theorem dX11_cipher_112 : decode cX11_cipher 112 = .ok (.istore 7, 2) := by decide +kernel
theorem dX11_cipher_114 : decode cX11_cipher 114 = .ok (.aload_n 0, 1) := by decide +kernel
theorem dX11_cipher_115 : decode cX11_cipher 115 = .ok (.getfield 53, 3) := by decide +kernel
theorem dX11_cipher_118 : decode cX11_cipher 118 = .ok (.iload 6, 2) := by decide +kernel
theorem dX11_cipher_120 : decode cX11_cipher 120 = .ok (.iaload, 1) := by decide +kernel
theorem dX11_cipher_121 : decode cX11_cipher 121 = .ok (.istore 8, 2) := by decide +kernel
theorem dX11_cipher_123 : decode cX11_cipher 123 = .ok (.iload 5, 2) := by decide +kernel
theorem dX11_cipher_125 : decode cX11_cipher 125 = .ok (.iload 4, 2) := by decide +kernel
theorem dX11_cipher_127 : decode cX11_cipher 127 = .ok (.if_icmp .ge 65, 3) := by decide +kernel
theorem dX11_cipher_130 : decode cX11_cipher 130 = .ok (.aload_n 0, 1) := by decide +kernel
theorem dX11_cipher_131 : decode cX11_cipher 131 = .ok (.getfield 53, 3) := by decide +kernel
theorem dX11_cipher_134 : decode cX11_cipher 134 = .ok (.iload 6, 2) := by decide +kernel
theorem dX11_cipher_136 : decode cX11_cipher 136 = .ok (.iaload, 1) := by decide +kernel
theorem dX11_cipher_137 : decode cX11_cipher 137 = .ok (.iconst 2, 1) := by decide +kernel
theorem dX11_cipher_138 : decode cX11_cipher 138 = .ok (.invokestatic 178, 3) := by decide +kernel
theorem dX11_cipher_141 : decode cX11_cipher 141 = .ok (.aload_n 0, 1) := by decide +kernel
theorem dX11_cipher_142 : decode cX11_cipher 142 = .ok (.getfield 53, 3) := by decide +kernel
theorem dX11_cipher_145 : decode cX11_cipher 145 = .ok (.iload 7, 2) := by decide +kernel
theorem dX11_cipher_147 : decode cX11_cipher 147 = .ok (.iload 6, 2) := by decide +kernel
theorem dX11_cipher_149 : decode cX11_cipher 149 = .ok (.iconst 1, 1) := by decide +kernel
theorem dX11_cipher_150 : decode cX11_cipher 150 = .ok (.iadd, 1) := by decide +kernel
theorem dX11_cipher_151 : decode cX11_cipher 151 = .ok (.iconst 4, 1) := by decide +kernel
theorem dX11_cipher_152 : decode cX11_cipher 152 = .ok (.irem, 1) := by decide +kernel
theorem dX11_cipher_153 : decode cX11_cipher 153 = .ok (.iadd, 1) := by decide +kernel
theorem dX11_cipher_154 : decode cX11_cipher 154 = .ok (.iaload, 1) := by decide +kernel
theorem dX11_cipher_155 : decode cX11_cipher 155 = .ok (.iconst 3, 1) := by decide +kernel
theorem dX11_cipher_156 : decode cX11_cipher 156 = .ok (.invokestatic 178, 3) := by decide +kernel
theorem dX11_cipher_159 : decode cX11_cipher 159 = .ok (.ixor, 1) := by decide +kernel
theorem dX11_cipher_160 : decode cX11_cipher 160 = .ok (.aload_n 0, 1) := by decide +kernel
theorem dX11_cipher_161 : decode cX11_cipher 161 = .ok (.getfield 53, 3) := by decide +kernel
theorem dX11_cipher_164 : decode cX11_cipher 164 = .ok (.iload 7, 2) := by decide +kernel
theorem dX11_cipher_166 : decode cX11_cipher 166 = .ok (.iload 6, 2) := by decide +kernel
theorem dX11_cipher_168 : decode cX11_cipher 168 = .ok (.iconst 2, 1) := by decide +kernel
theorem dX11_cipher_169 : decode cX11_cipher 169 = .ok (.iadd, 1) := by decide +kernel
theorem dX11_cipher_170 : decode cX11_cipher 170 = .ok (.iconst 4, 1) := by decide +kernel
theorem dX11_cipher_171 : decode cX11_cipher 171 = .ok (.irem, 1) := by decide +kernel
theorem dX11_cipher_172 : decode cX11_cipher 172 = .ok (.iadd, 1) := by decide +kernel
theorem dX11_cipher_173 : decode cX11_cipher 173 = .ok (.iaload, 1) := by decide +kernel
theorem dX11_cipher_174 : decode cX11_cipher 174 = .ok (.ixor, 1) := by decide +kernel
theorem dX11_cipher_175 : decode cX11_cipher 175 = .ok (.aload_n 0, 1) := by decide +kernel
theorem dX11_cipher_176 : decode cX11_cipher 176 = .ok (.getfield 53, 3) := by decide +kernel
theorem dX11_cipher_179 : decode cX11_cipher 179 = .ok (.iload 7, 2) := by decide +kernel
theorem dX11_cipher_181 : decode cX11_cipher 181 = .ok (.iload 6, 2) := by decide +kernel
theorem dX11_cipher_183 : decode cX11_cipher 183 = .ok (.iconst 3, 1) := by decide +kernel
theorem dX11_cipher_184 : decode cX11_cipher 184 = .ok (.iadd, 1) := by decide +kernel
theorem dX11_cipher_185 : decode cX11_cipher 185 = .ok (.iconst 4, 1) := by decide +kernel
theorem dX11_cipher_186 : decode cX11_cipher 186 = .ok (.irem, 1) := by decide +kernel
theorem dX11_cipher_187 : decode cX11_cipher 187 = .ok (.iadd, 1) := by decide +kernel
theorem dX11_cipher_188 : decode cX11_cipher 188 = .ok (.iaload, 1) := by decide +kernel
theorem dX11_cipher_189 : decode cX11_cipher 189 = .ok (.ixor, 1) := by decide +kernel
theorem dX11_cipher_190 : decode cX11_cipher 190 = .ok (.istore 8, 2) := by decide +kernel
theorem dX11_cipher_192 : decode cX11_cipher 192 = .ok (.aload_n 3, 1) := by decide +kernel
theorem dX11_cipher_193 : decode cX11_cipher 193 = .ok (.iload 6, 2) := by decide +kernel
theorem dX11_cipher_195 : decode cX11_cipher 195 = .ok (.iload 8, 2) := by decide +kernel
theorem dX11_cipher_197 : decode cX11_cipher 197 = .ok (.aload_n 0, 1) := by decide +kernel
theorem dX11_cipher_198 : decode cX11_cipher 198 = .ok (.getfield 50, 3) := by decide +kernel
theorem dX11_cipher_201 : decode cX11_cipher 201 = .ok (.bipush 16, 2) := by decide +kernel
theorem dX11_cipher_203 : decode cX11_cipher 203 = .ok (.iload 5, 2) := by decide +kernel
theorem dX11_cipher_205 : decode cX11_cipher 205 = .ok (.imul, 1) := by decide +kernel
theorem dX11_cipher_206 : decode cX11_cipher 206 = .ok (.iload 6, 2) := by decide +kernel
theorem dX11_cipher_208 : decode cX11_cipher 208 = .ok (.iadd, 1) := by decide +kernel
theorem dX11_cipher_209 : decode cX11_cipher 209 = .ok (.iaload, 1) := by decide +kernel
theorem dX11_cipher_210 : decode cX11_cipher 210 = .ok (.ixor, 1) := by decide +kernel
theorem dX11_cipher_211 : decode cX11_cipher 211 = .ok (.iastore, 1) := by decide +kernel
theorem dX11_cipher_212 : decode cX11_cipher 212 = .ok (.iinc 6 1, 3) := by decide +kernel
theorem dX11_cipher_215 : decode cX11_cipher 215 = .ok (.goto (-116), 3) := by decide +kernel
theorem dX11_cipher_218 : decode cX11_cipher 218 = .ok (.iinc 5 1, 3) := by decide +kernel
theorem dX11_cipher_221 : decode cX11_cipher 221 = .ok (.goto (-174), 3) := by decide +kernel
theorem dX11_cipher_224 : decode cX11_cipher 224 = .ok (.return_, 1) := by decide +kernel
theorem dX11_deriveE_0 : decode cX11_deriveE 0 = .ok (.bipush 16, 2) := by decide +kernel
theorem dX11_deriveE_2 : decode cX11_deriveE 2 = .ok (.bipush 8, 2) := by decide +kernel
theorem dX11_deriveE_4 : decode cX11_deriveE 4 = .ok (.iload_n 3, 1) := by decide +kernel
theorem dX11_deriveE_5 : decode cX11_deriveE 5 = .ok (.iadd, 1) := by decide +kernel
theorem dX11_deriveE_6 : decode cX11_deriveE 6 = .ok (.iconst 1, 1) := by decide +kernel
theorem dX11_deriveE_7 : decode cX11_deriveE 7 = .ok (.iadd, 1) := by decide +kernel
theorem dX11_deriveE_8 : decode cX11_deriveE 8 = .ok (.bipush 15, 2) := by decide +kernel
theorem dX11_deriveE_10 : decode cX11_deriveE 10 = .ok (.iadd, 1) := by decide +kernel
theorem dX11_deriveE_11 : decode cX11_deriveE 11 = .ok (.bipush 16, 2) := by decide +kernel
theorem dX11_deriveE_13 : decode cX11_deriveE 13 = .ok (.idiv, 1) := by decide +kernel
theorem dX11_deriveE_14 : decode cX11_deriveE 14 = .ok (.bipush 16, 2) := by decide +kernel
theorem dX11_deriveE_16 : decode cX11_deriveE 16 = .ok (.imul, 1) := by decide +kernel
theorem dX11_deriveE_17 : decode cX11_deriveE 17 = .ok (.iadd, 1) := by decide +kernel
theorem dX11_deriveE_18 : decode cX11_deriveE 18 = .ok (.istore 6, 2) := by decide +kernel
theorem dX11_deriveE_20 : decode cX11_deriveE 20 = .ok (.iconst 0, 1) := by decide +kernel
theorem dX11_deriveE_21 : decode cX11_deriveE 21 = .ok (.istore 7, 2) := by decide +kernel
theorem dX11_deriveE_23 : decode cX11_deriveE 23 = .ok (.iload 7, 2) := by decide +kernel
theorem dX11_deriveE_25 : decode cX11_deriveE 25 = .ok (.iload 6, 2) := by decide +kernel
theorem dX11_deriveE_27 : decode cX11_deriveE 27 = .ok (.if_icmp .ge 17, 3) := by decide +kernel
theorem dX11_deriveE_30 : decode cX11_deriveE 30 = .ok (.aload_n 0, 1) := by decide +kernel
theorem dX11_deriveE_31 : decode cX11_deriveE 31 = .ok (.getfield 59, 3) := by decide +kernel
theorem dX11_deriveE_34 : decode cX11_deriveE 34 = .ok (.iload 7, 2) := by decide +kernel
theorem dX11_deriveE_36 : decode cX11_deriveE 36 = .ok (.iconst 0, 1) := by decide +kernel
theorem dX11_deriveE_37 : decode cX11_deriveE 37 = .ok (.iastore, 1) := by decide +kernel
theorem dX11_deriveE_38 : decode cX11_deriveE 38 = .ok (.iinc 7 1, 3) := by decide +kernel
theorem dX11_deriveE_41 : decode cX11_deriveE 41 = .ok (.goto (-18), 3) := by decide +kernel
theorem dX11_deriveE_44 : decode cX11_deriveE 44 = .ok (.aload_n 0, 1) := by decide +kernel
theorem dX11_deriveE_45 : decode cX11_deriveE 45 = .ok (.getfield 59, 3) := by decide +kernel
theorem dX11_deriveE_48 : decode cX11_deriveE 48 = .ok (.bipush 16, 2) := by decide +kernel
theorem dX11_deriveE_50 : decode cX11_deriveE 50 = .ok (.iload_n 3, 1) := by decide +kernel
theorem dX11_deriveE_51 : decode cX11_deriveE 51 = .ok (.iconst 4, 1) := by decide +kernel
theorem dX11_deriveE_52 : decode cX11_deriveE 52 = .ok (.invokestatic 174, 3) := by decide +kernel
theorem dX11_deriveE_55 : decode cX11_deriveE 55 = .ok (.aload_n 0, 1) := by decide +kernel
theorem dX11_deriveE_56 : decode cX11_deriveE 56 = .ok (.getfield 59, 3) := by decide +kernel
theorem dX11_deriveE_59 : decode cX11_deriveE 59 = .ok (.bipush 20, 2) := by decide +kernel
theorem dX11_deriveE_61 : decode cX11_deriveE 61 = .ok (.iload 5, 2) := by decide +kernel
theorem dX11_deriveE_63 : decode cX11_deriveE 63 = .ok (.iconst 4, 1) := by decide +kernel
theorem dX11_deriveE_64 : decode cX11_deriveE 64 = .ok (.invokestatic 174, 3) := by decide +kernel
theorem dX11_deriveE_67 : decode cX11_deriveE 67 = .ok (.iconst 0, 1) := by decide +kernel
theorem dX11_deriveE_68 : decode cX11_deriveE 68 = .ok (.istore 7, 2) := by decide +kernel
theorem dX11_deriveE_70 : decode cX11_deriveE 70 = .ok (.iload 7, 2) := by decide +kernel
theorem dX11_deriveE_72 : decode cX11_deriveE 72 = .ok (.iload_n 3, 1) := by decide +kernel
theorem dX11_deriveE_73 : decode cX11_deriveE 73 = .ok (.if_icmp .ge 23, 3) := by decide +kernel
theorem dX11_deriveE_76 : decode cX11_deriveE 76 = .ok (.aload_n 0, 1) := by decide +kernel
theorem dX11_deriveE_77 : decode cX11_deriveE 77 = .ok (.getfield 59, 3) := by decide +kernel
theorem dX11_deriveE_80 : decode cX11_deriveE 80 = .ok (.bipush 24, 2) := by decide +kernel
theorem dX11_deriveE_82 : decode cX11_deriveE 82 = .ok (.iload 7, 2) := by decide +kernel
theorem dX11_deriveE_84 : decode cX11_deriveE 84 = .ok (.iadd, 1) := by decide +kernel
theorem dX11_deriveE_85 : decode cX11_deriveE 85 = .ok (.aload_n 2, 1) := by decide +kernel
theorem dX11_deriveE_86 : decode cX11_deriveE 86 = .ok (.iload 7, 2) := by decide +kernel
theorem dX11_deriveE_88 : decode cX11_deriveE 88 = .ok (.iaload, 1) := by decide +kernel
theorem dX11_deriveE_89 : decode cX11_deriveE 89 = .ok (.iastore, 1) := by decide +kernel
theorem dX11_deriveE_90 : decode cX11_deriveE 90 = .ok (.iinc 7 1, 3) := by decide +kernel
theorem dX11_deriveE_93 : decode cX11_deriveE 93 = .ok (.goto (-23), 3) := by decide +kernel
theorem dX11_deriveE_96 : decode cX11_deriveE 96 = .ok (.aload_n 0, 1) := by decide +kernel
theorem dX11_deriveE_97 : decode cX11_deriveE 97 = .ok (.getfield 59, 3) := by decide +kernel
theorem dX11_deriveE_100 : decode cX11_deriveE 100 = .ok (.bipush 24, 2) := by decide +kernel
theorem dX11_deriveE_102 : decode cX11_deriveE 102 = .ok (.iload_n 3, 1) := by decide +kernel
theorem dX11_deriveE_103 : decode cX11_deriveE 103 = .ok (.iadd, 1) := by decide +kernel
theorem dX11_deriveE_104 : decode cX11_deriveE 104 = .ok (.sipush 128, 3) := by decide +kernel
theorem dX11_deriveE_107 : decode cX11_deriveE 107 = .ok (.iastore, 1) := by decide +kernel
theorem dX11_deriveE_108 : decode cX11_deriveE 108 = .ok (.iconst 0, 1) := by decide +kernel
theorem dX11_deriveE_109 : decode cX11_deriveE 109 = .ok (.istore 7, 2) := by decide +kernel
theorem dX11_deriveE_111 : decode cX11_deriveE 111 = .ok (.iload 7, 2) := by decide +kernel
theorem dX11_deriveE_113 : decode cX11_deriveE 113 = .ok (.iload_n 1, 1) := by decide +kernel
theorem dX11_deriveE_114 : decode cX11_deriveE 114 = .ok (.if_icmp .ge 18, 3) := by decide +kernel
theorem dX11_deriveE_117 : decode cX11_deriveE 117 = .ok (.aload_n 0, 1) := by decide +kernel
theorem dX11_deriveE_118 : decode cX11_deriveE 118 = .ok (.getfield 62, 3) := by decide +kernel
theorem dX11_deriveE_121 : decode cX11_deriveE 121 = .ok (.iload 7, 2) := by decide +kernel
theorem dX11_deriveE_123 : decode cX11_deriveE 123 = .ok (.iload 7, 2) := by decide +kernel
theorem dX11_deriveE_125 : decode cX11_deriveE 125 = .ok (.iastore, 1) := by decide +kernel
theorem dX11_deriveE_126 : decode cX11_deriveE 126 = .ok (.iinc 7 1, 3) := by decide +kernel
theorem dX11_deriveE_129 : decode cX11_deriveE 129 = .ok (.goto (-18), 3) := by decide +kernel
theorem dX11_deriveE_132 : decode cX11_deriveE 132 = .ok (.iconst 0, 1) := by decide +kernel
theorem dX11_deriveE_133 : decode cX11_deriveE 133 = .ok (.istore 7, 2) := by decide +kernel
theorem dX11_deriveE_135 : decode cX11_deriveE 135 = .ok (.bipush 16, 2) := by decide +kernel
theorem dX11_deriveE_137 : decode cX11_deriveE 137 = .ok (.iload 7, 2) := by decide +kernel
theorem dX11_deriveE_139 : decode cX11_deriveE 139 = .ok (.imul, 1) := by decide +kernel
theorem dX11_deriveE_140 : decode cX11_deriveE 140 = .ok (.iload_n 1, 1) := by decide +kernel
theorem dX11_deriveE_141 : decode cX11_deriveE 141 = .ok (.bipush 16, 2) := by decide +kernel
theorem dX11_deriveE_143 : decode cX11_deriveE 143 = .ok (.iadd, 1) := by decide +kernel
theorem dX11_deriveE_144 : decode cX11_deriveE 144 = .ok (.if_icmp .ge 145, 3) := by decide +kernel
theorem dX11_deriveE_147 : decode cX11_deriveE 147 = .ok (.aload_n 0, 1) := by decide +kernel
theorem dX11_deriveE_148 : decode cX11_deriveE 148 = .ok (.getfield 59, 3) := by decide +kernel
theorem dX11_deriveE_151 : decode cX11_deriveE 151 = .ok (.iconst 0, 1) := by decide +kernel
theorem dX11_deriveE_152 : decode cX11_deriveE 152 = .ok (.iload 7, 2) := by decide +kernel
theorem dX11_deriveE_154 : decode cX11_deriveE 154 = .ok (.iconst 4, 1) := by decide +kernel
theorem dX11_deriveE_155 : decode cX11_deriveE 155 = .ok (.invokestatic 174, 3) := by decide +kernel
theorem dX11_deriveE_158 : decode cX11_deriveE 158 = .ok (.iconst 0, 1) := by decide +kernel
theorem dX11_deriveE_159 : decode cX11_deriveE 159 = .ok (.istore 8, 2) := by decide +kernel
theorem dX11_deriveE_161 : decode cX11_deriveE 161 = .ok (.iload 8, 2) := by decide +kernel
theorem dX11_deriveE_163 : decode cX11_deriveE 163 = .ok (.bipush 16, 2) := by decide +kernel
theorem dX11_deriveE_165 : decode cX11_deriveE 165 = .ok (.if_icmp .ge 17, 3) := by decide +kernel
theorem dX11_deriveE_168 : decode cX11_deriveE 168 = .ok (.aload_n 0, 1) := by decide +kernel
theorem dX11_deriveE_169 : decode cX11_deriveE 169 = .ok (.getfield 56, 3) := by decide +kernel
theorem dX11_deriveE_172 : decode cX11_deriveE 172 = .ok (.iload 8, 2) := by decide +kernel
theorem dX11_deriveE_174 : decode cX11_deriveE 174 = .ok (.iconst 0, 1) := by decide +kernel
theorem dX11_deriveE_175 : decode cX11_deriveE 175 = .ok (.iastore, 1) := by decide +kernel
theorem dX11_deriveE_176 : decode cX11_deriveE 176 = .ok (.iinc 8 1, 3) := by decide +kernel
theorem dX11_deriveE_179 : decode cX11_deriveE 179 = .ok (.goto (-18), 3) := by decide +kernel
theorem dX11_deriveE_182 : decode cX11_deriveE 182 = .ok (.iconst 0, 1) := by decide +kernel
theorem dX11_deriveE_183 : decode cX11_deriveE 183 = .ok (.istore 8, 2) := by decide +kernel
theorem dX11_deriveE_185 : decode cX11_deriveE 185 = .ok (.iload 8, 2) := by decide +kernel
theorem dX11_deriveE_187 : decode cX11_deriveE 187 = .ok (.iload 6, 2) := by decide +kernel
theorem dX11_deriveE_189 : decode cX11_deriveE 189 = .ok (.if_icmp .ge 58, 3) := by decide +kernel
theorem dX11_deriveE_192 : decode cX11_deriveE 192 = .ok (.iconst 0, 1) := by decide +kernel
theorem dX11_deriveE_193 : decode cX11_deriveE 193 = .ok (.istore 9, 2) := by decide +kernel
theorem dX11_deriveE_195 : decode cX11_deriveE 195 = .ok (.iload 9, 2) := by decide +kernel
theorem dX11_deriveE_197 : decode cX11_deriveE 197 = .ok (.bipush 16, 2) := by decide +kernel
theorem dX11_deriveE_199 : decode cX11_deriveE 199 = .ok (.if_icmp .ge 29, 3) := by decide +kernel
theorem dX11_deriveE_202 : decode cX11_deriveE 202 = .ok (.aload_n 0, 1) := by decide +kernel
theorem dX11_deriveE_203 : decode cX11_deriveE 203 = .ok (.getfield 56, 3) := by decide +kernel
theorem dX11_deriveE_206 : decode cX11_deriveE 206 = .ok (.iload 9, 2) := by decide +kernel
theorem dX11_deriveE_208 : decode cX11_deriveE 208 = .ok (.dup2, 1) := by decide +kernel
theorem dX11_deriveE_209 : decode cX11_deriveE 209 = .ok (.iaload, 1) := by decide +kernel
theorem dX11_deriveE_210 : decode cX11_deriveE 210 = .ok (.aload_n 0, 1) := by decide +kernel
theorem dX11_deriveE_211 : decode cX11_deriveE 211 = .ok (.getfield 59, 3) := by decide +kernel
theorem dX11_deriveE_214 : decode cX11_deriveE 214 = .ok (.iload 8, 2) := by decide +kernel
theorem dX11_deriveE_216 : decode cX11_deriveE 216 = .ok (.iload 9, 2) := by decide +kernel
theorem dX11_deriveE_218 : decode cX11_deriveE 218 = .ok (.iadd, 1) := by decide +kernel
theorem dX11_deriveE_219 : decode cX11_deriveE 219 = .ok (.iaload, 1) := by decide +kernel
theorem dX11_deriveE_220 : decode cX11_deriveE 220 = .ok (.ixor, 1) := by decide +kernel
theorem dX11_deriveE_221 : decode cX11_deriveE 221 = .ok (.iastore, 1) := by decide +kernel
theorem dX11_deriveE_222 : decode cX11_deriveE 222 = .ok (.iinc 9 1, 3) := by decide +kernel
theorem dX11_deriveE_225 : decode cX11_deriveE 225 = .ok (.goto (-30), 3) := by decide +kernel
theorem dX11_deriveE_228 : decode cX11_deriveE 228 = .ok (.aload_n 0, 1) := by decide +kernel
theorem dX11_deriveE_229 : decode cX11_deriveE 229 = .ok (.aload_n 0, 1) := by decide +kernel
theorem dX11_deriveE_230 : decode cX11_deriveE 230 = .ok (.getfield 62, 3) := by decide +kernel
theorem dX11_deriveE_233 : decode cX11_deriveE 233 = .ok (.iload_n 1, 1) := by decide +kernel
theorem dX11_deriveE_234 : decode cX11_deriveE 234 = .ok (.aload_n 0, 1) := by decide +kernel
theorem dX11_deriveE_235 : decode cX11_deriveE 235 = .ok (.getfield 56, 3) := by decide +kernel
theorem dX11_deriveE_238 : decode cX11_deriveE 238 = .ok (.invokevirtual 186, 3) := by decide +kernel
theorem dX11_deriveE_241 : decode cX11_deriveE 241 = .ok (.iinc 8 16, 3) := by decide +kernel
theorem dX11_deriveE_244 : decode cX11_deriveE 244 = .ok (.goto (-59), 3) := by decide +kernel
theorem dX11_deriveE_247 : decode cX11_deriveE 247 = .ok (.iconst 0, 1) := by decide +kernel
theorem dX11_deriveE_248 : decode cX11_deriveE 248 = .ok (.istore 8, 2) := by decide +kernel
theorem dX11_deriveE_250 : decode cX11_deriveE 250 = .ok (.iload 8, 2) := by decide +kernel
theorem dX11_deriveE_252 : decode cX11_deriveE 252 = .ok (.bipush 16, 2) := by decide +kernel
theorem dX11_deriveE_254 : decode cX11_deriveE 254 = .ok (.if_icmp .ge 29, 3) := by decide +kernel
theorem dX11_deriveE_257 : decode cX11_deriveE 257 = .ok (.aload_n 0, 1) := by decide +kernel
theorem dX11_deriveE_258 : decode cX11_deriveE 258 = .ok (.getfield 65, 3) := by decide +kernel
theorem dX11_deriveE_261 : decode cX11_deriveE 261 = .ok (.bipush 16, 2) := by decide +kernel
theorem dX11_deriveE_263 : decode cX11_deriveE 263 = .ok (.iload 7, 2) := by decide +kernel
theorem dX11_deriveE_265 : decode cX11_deriveE 265 = .ok (.imul, 1) := by decide +kernel
theorem dX11_deriveE_266 : decode cX11_deriveE 266 = .ok (.iload 8, 2) := by decide +kernel
theorem dX11_deriveE_268 : decode cX11_deriveE 268 = .ok (.iadd, 1) := by decide +kernel
theorem dX11_deriveE_269 : decode cX11_deriveE 269 = .ok (.aload_n 0, 1) := by decide +kernel
theorem dX11_deriveE_270 : decode cX11_deriveE 270 = .ok (.getfield 56, 3) := by decide +kernel
theorem dX11_deriveE_273 : decode cX11_deriveE 273 = .ok (.iload 8, 2) := by decide +kernel
theorem dX11_deriveE_275 : decode cX11_deriveE 275 = .ok (.iaload, 1) := by decide +kernel
theorem dX11_deriveE_276 : decode cX11_deriveE 276 = .ok (.iastore, 1) := by decide +kernel
theorem dX11_deriveE_277 : decode cX11_deriveE 277 = .ok (.iinc 8 1, 3) := by decide +kernel
theorem dX11_deriveE_280 : decode cX11_deriveE 280 = .ok (.goto (-30), 3) := by decide +kernel
theorem dX11_deriveE_283 : decode cX11_deriveE 283 = .ok (.iinc 7 1, 3) := by decide +kernel
theorem dX11_deriveE_286 : decode cX11_deriveE 286 = .ok (.goto (-151), 3) := by decide +kernel
theorem dX11_deriveE_289 : decode cX11_deriveE 289 = .ok (.iconst 0, 1) := by decide +kernel
theorem dX11_deriveE_290 : decode cX11_deriveE 290 = .ok (.istore 7, 2) := by decide +kernel
theorem dX11_deriveE_292 : decode cX11_deriveE 292 = .ok (.iload 7, 2) := by decide +kernel
theorem dX11_deriveE_294 : decode cX11_deriveE 294 = .ok (.bipush 16, 2) := by decide +kernel
theorem dX11_deriveE_296 : decode cX11_deriveE 296 = .ok (.if_icmp .ge 25, 3) := by decide +kernel
theorem dX11_deriveE_299 : decode cX11_deriveE 299 = .ok (.aload_n 0, 1) := by decide +kernel
theorem dX11_deriveE_300 : decode cX11_deriveE 300 = .ok (.getfield 56, 3) := by decide +kernel
theorem dX11_deriveE_303 : decode cX11_deriveE 303 = .ok (.iload 7, 2) := by decide +kernel
theorem dX11_deriveE_305 : decode cX11_deriveE 305 = .ok (.aload_n 0, 1) := by decide +kernel
theorem dX11_deriveE_306 : decode cX11_deriveE 306 = .ok (.getfield 65, 3) := by decide +kernel
theorem dX11_deriveE_309 : decode cX11_deriveE 309 = .ok (.iload_n 1, 1) := by decide +kernel
theorem dX11_deriveE_310 : decode cX11_deriveE 310 = .ok (.iload 7, 2) := by decide +kernel
theorem dX11_deriveE_312 : decode cX11_deriveE 312 = .ok (.iadd, 1) := by decide +kernel
theorem dX11_deriveE_313 : decode cX11_deriveE 313 = .ok (.iaload, 1) := by decide +kernel
theorem dX11_deriveE_314 : decode cX11_deriveE 314 = .ok (.iastore, 1) := by decide +kernel
theorem dX11_deriveE_315 : decode cX11_deriveE 315 = .ok (.iinc 7 1, 3) := by decide +kernel
theorem dX11_deriveE_318 : decode cX11_deriveE 318 = .ok (.goto (-26), 3) := by decide +kernel
theorem dX11_deriveE_321 : decode cX11_deriveE 321 = .ok (.iconst 0, 1) := by decide +kernel
theorem dX11_deriveE_322 : decode cX11_deriveE 322 = .ok (.istore 7, 2) := by decide +kernel
theorem dX11_deriveE_324 : decode cX11_deriveE 324 = .ok (.iload 7, 2) := by decide +kernel
theorem dX11_deriveE_326 : decode cX11_deriveE 326 = .ok (.iload 5, 2) := by decide +kernel
theorem dX11_deriveE_328 : decode cX11_deriveE 328 = .ok (.if_icmp .ge 63, 3) := by decide +kernel
theorem dX11_deriveE_331 : decode cX11_deriveE 331 = .ok (.aload_n 0, 1) := by decide +kernel
theorem dX11_deriveE_332 : decode cX11_deriveE 332 = .ok (.aload_n 0, 1) := by decide +kernel
theorem dX11_deriveE_333 : decode cX11_deriveE 333 = .ok (.getfield 65, 3) := by decide +kernel
theorem dX11_deriveE_336 : decode cX11_deriveE 336 = .ok (.iload_n 1, 1) := by decide +kernel
theorem dX11_deriveE_337 : decode cX11_deriveE 337 = .ok (.aload_n 0, 1) := by decide +kernel
theorem dX11_deriveE_338 : decode cX11_deriveE 338 = .ok (.getfield 56, 3) := by decide +kernel
theorem dX11_deriveE_341 : decode cX11_deriveE 341 = .ok (.invokevirtual 186, 3) := by decide +kernel
theorem dX11_deriveE_344 : decode cX11_deriveE 344 = .ok (.iconst 0, 1) := by decide +kernel
theorem dX11_deriveE_345 : decode cX11_deriveE 345 = .ok (.istore 8, 2) := by decide +kernel
theorem dX11_deriveE_347 : decode cX11_deriveE 347 = .ok (.iload 8, 2) := by decide +kernel
theorem dX11_deriveE_349 : decode cX11_deriveE 349 = .ok (.bipush 16, 2) := by decide +kernel
theorem dX11_deriveE_351 : decode cX11_deriveE 351 = .ok (.if_icmp .ge 34, 3) := by decide +kernel
theorem dX11_deriveE_354 : decode cX11_deriveE 354 = .ok (.iload 7, 2) := by decide +kernel
theorem dX11_deriveE_356 : decode cX11_deriveE 356 = .ok (.iload 8, 2) := by decide +kernel
theorem dX11_deriveE_358 : decode cX11_deriveE 358 = .ok (.iadd, 1) := by decide +kernel
theorem dX11_deriveE_359 : decode cX11_deriveE 359 = .ok (.iload 5, 2) := by decide +kernel
theorem dX11_deriveE_361 : decode cX11_deriveE 361 = .ok (.if_icmp .ge 24, 3) := by decide +kernel
theorem dX11_deriveE_364 : decode cX11_deriveE 364 = .ok (.aload 4, 2) := by decide +kernel
theorem dX11_deriveE_366 : decode cX11_deriveE 366 = .ok (.iload 7, 2) := by decide +kernel
theorem dX11_deriveE_368 : decode cX11_deriveE 368 = .ok (.iload 8, 2) := by decide +kernel
theorem dX11_deriveE_370 : decode cX11_deriveE 370 = .ok (.iadd, 1) := by decide +kernel
theorem dX11_deriveE_371 : decode cX11_deriveE 371 = .ok (.aload_n 0, 1) := by decide +kernel
theorem dX11_deriveE_372 : decode cX11_deriveE 372 = .ok (.getfield 56, 3) := by decide +kernel
theorem dX11_deriveE_375 : decode cX11_deriveE 375 = .ok (.iload 8, 2) := by decide +kernel
theorem dX11_deriveE_377 : decode cX11_deriveE 377 = .ok (.iaload, 1) := by decide +kernel
theorem dX11_deriveE_378 : decode cX11_deriveE 378 = .ok (.iastore, 1) := by decide +kernel
theorem dX11_deriveE_379 : decode cX11_deriveE 379 = .ok (.iinc 8 1, 3) := by decide +kernel
theorem dX11_deriveE_382 : decode cX11_deriveE 382 = .ok (.goto (-35), 3) := by decide +kernel
theorem dX11_deriveE_385 : decode cX11_deriveE 385 = .ok (.iinc 7 16, 3) := by decide +kernel
theorem dX11_deriveE_388 : decode cX11_deriveE 388 = .ok (.goto (-64), 3) := by decide +kernel
theorem dX11_deriveE_391 : decode cX11_deriveE 391 = .ok (.return_, 1) := by decide +kernel
theorem dX11_comes_0 : decode cX11_comes 0 = .ok (.aload_n 0, 1) := by decide +kernel
theorem dX11_comes_1 : decode cX11_comes 1 = .ok (.iload_n 1, 1) := by decide +kernel
theorem dX11_comes_2 : decode cX11_comes 2 = .ok (.aload_n 0, 1) := by decide +kernel
theorem dX11_comes_3 : decode cX11_comes 3 = .ok (.getfield 81, 3) := by decide +kernel
theorem dX11_comes_6 : decode cX11_comes 6 = .ok (.if_icmp .ne 12, 3) := by decide +kernel
theorem dX11_comes_9 : decode cX11_comes 9 = .ok (.aload_n 0, 1) := by decide +kernel
theorem dX11_comes_10 : decode cX11_comes 10 = .ok (.getfield 190, 3) := by decide +kernel
theorem dX11_comes_13 : decode cX11_comes 13 = .ok (.iconst 1, 1) := by decide +kernel
theorem dX11_comes_14 : decode cX11_comes 14 = .ok (.iadd, 1) := by decide +kernel
theorem dX11_comes_15 : decode cX11_comes 15 = .ok (.goto 4, 3) := by decide +kernel
theorem dX11_comes_18 : decode cX11_comes 18 = .ok (.iconst 1, 1) := by decide +kernel
theorem dX11_comes_19 : decode cX11_comes 19 = .ok (.putfield 190, 3) := by decide +kernel
theorem dX11_comes_22 : decode cX11_comes 22 = .ok (.aload_n 0, 1) := by decide +kernel
theorem dX11_comes_23 : decode cX11_comes 23 = .ok (.iload_n 1, 1) := by decide +kernel
theorem dX11_comes_24 : decode cX11_comes 24 = .ok (.putfield 81, 3) := by decide +kernel
theorem dX11_comes_27 : decode cX11_comes 27 = .ok (.aload_n 0, 1) := by decide +kernel
theorem dX11_comes_28 : decode cX11_comes 28 = .ok (.getfield 190, 3) := by decide +kernel
theorem dX11_comes_31 : decode cX11_comes 31 = .ok (.aload_n 0, 1) := by decide +kernel
theorem dX11_comes_32 : decode cX11_comes 32 = .ok (.getfield 71, 3) := by decide +kernel
theorem dX11_comes_35 : decode cX11_comes 35 = .ok (.if_icmp .ne 7, 3) := by decide +kernel
theorem dX11_comes_38 : decode cX11_comes 38 = .ok (.iconst 1, 1) := by decide +kernel
theorem dX11_comes_39 : decode cX11_comes 39 = .ok (.goto 4, 3) := by decide +kernel
theorem dX11_comes_42 : decode cX11_comes 42 = .ok (.iconst 0, 1) := by decide +kernel
theorem dX11_comes_43 : decode cX11_comes 43 = .ok (.istore_n 2, 1) := by decide +kernel
theorem dX11_comes_44 : decode cX11_comes 44 = .ok (.aload_n 0, 1) := by decide +kernel
theorem dX11_comes_45 : decode cX11_comes 45 = .ok (.getfield 84, 3) := by decide +kernel
theorem dX11_comes_48 : decode cX11_comes 48 = .ok (.iconst (-1), 1) := by decide +kernel
theorem dX11_comes_49 : decode cX11_comes 49 = .ok (.if_icmp .ne 21, 3) := by decide +kernel
theorem dX11_comes_52 : decode cX11_comes 52 = .ok (.aload_n 0, 1) := by decide +kernel
theorem dX11_comes_53 : decode cX11_comes 53 = .ok (.iload_n 1, 1) := by decide +kernel
theorem dX11_comes_54 : decode cX11_comes 54 = .ok (.putfield 84, 3) := by decide +kernel
theorem dX11_comes_57 : decode cX11_comes 57 = .ok (.aload_n 0, 1) := by decide +kernel
theorem dX11_comes_58 : decode cX11_comes 58 = .ok (.iconst 1, 1) := by decide +kernel
theorem dX11_comes_59 : decode cX11_comes 59 = .ok (.putfield 193, 3) := by decide +kernel
theorem dX11_comes_62 : decode cX11_comes 62 = .ok (.aload_n 0, 1) := by decide +kernel
theorem dX11_comes_63 : decode cX11_comes 63 = .ok (.iconst 1, 1) := by decide +kernel
theorem dX11_comes_64 : decode cX11_comes 64 = .ok (.putfield 196, 3) := by decide +kernel
theorem dX11_comes_67 : decode cX11_comes 67 = .ok (.goto 68, 3) := by decide +kernel
theorem dX11_comes_70 : decode cX11_comes 70 = .ok (.iload_n 1, 1) := by decide +kernel
theorem dX11_comes_71 : decode cX11_comes 71 = .ok (.aload_n 0, 1) := by decide +kernel
theorem dX11_comes_72 : decode cX11_comes 72 = .ok (.getfield 84, 3) := by decide +kernel
theorem dX11_comes_75 : decode cX11_comes 75 = .ok (.if_icmp .ne 34, 3) := by decide +kernel
theorem dX11_comes_78 : decode cX11_comes 78 = .ok (.aload_n 0, 1) := by decide +kernel
theorem dX11_comes_79 : decode cX11_comes 79 = .ok (.dup, 1) := by decide +kernel
theorem dX11_comes_80 : decode cX11_comes 80 = .ok (.getfield 193, 3) := by decide +kernel
theorem dX11_comes_83 : decode cX11_comes 83 = .ok (.iconst 1, 1) := by decide +kernel
theorem dX11_comes_84 : decode cX11_comes 84 = .ok (.iadd, 1) := by decide +kernel
theorem dX11_comes_85 : decode cX11_comes 85 = .ok (.putfield 193, 3) := by decide +kernel
theorem dX11_comes_88 : decode cX11_comes 88 = .ok (.iload_n 2, 1) := by decide +kernel
theorem dX11_comes_89 : decode cX11_comes 89 = .ok (.ifCond .ne 14, 3) := by decide +kernel
theorem dX11_comes_92 : decode cX11_comes 92 = .ok (.aload_n 0, 1) := by decide +kernel
theorem dX11_comes_93 : decode cX11_comes 93 = .ok (.getfield 193, 3) := by decide +kernel
theorem dX11_comes_96 : decode cX11_comes 96 = .ok (.aload_n 0, 1) := by decide +kernel
theorem dX11_comes_97 : decode cX11_comes 97 = .ok (.getfield 78, 3) := by decide +kernel
theorem dX11_comes_100 : decode cX11_comes 100 = .ok (.if_icmp .ne 7, 3) := by decide +kernel
theorem dX11_comes_103 : decode cX11_comes 103 = .ok (.iconst 1, 1) := by decide +kernel
theorem dX11_comes_104 : decode cX11_comes 104 = .ok (.goto 4, 3) := by decide +kernel
theorem dX11_comes_107 : decode cX11_comes 107 = .ok (.iconst 0, 1) := by decide +kernel
theorem dX11_comes_108 : decode cX11_comes 108 = .ok (.istore_n 2, 1) := by decide +kernel
theorem dX11_comes_109 : decode cX11_comes 109 = .ok (.aload_n 0, 1) := by decide +kernel
theorem dX11_comes_110 : decode cX11_comes 110 = .ok (.dup, 1) := by decide +kernel
theorem dX11_comes_111 : decode cX11_comes 111 = .ok (.getfield 196, 3) := by decide +kernel
theorem dX11_comes_114 : decode cX11_comes 114 = .ok (.iconst 1, 1) := by decide +kernel
theorem dX11_comes_115 : decode cX11_comes 115 = .ok (.iadd, 1) := by decide +kernel
theorem dX11_comes_116 : decode cX11_comes 116 = .ok (.putfield 196, 3) := by decide +kernel
theorem dX11_comes_119 : decode cX11_comes 119 = .ok (.aload_n 0, 1) := by decide +kernel
theorem dX11_comes_120 : decode cX11_comes 120 = .ok (.getfield 196, 3) := by decide +kernel
theorem dX11_comes_123 : decode cX11_comes 123 = .ok (.aload_n 0, 1) := by decide +kernel
theorem dX11_comes_124 : decode cX11_comes 124 = .ok (.getfield 75, 3) := by decide +kernel
theorem dX11_comes_127 : decode cX11_comes 127 = .ok (.if_icmp .ne 8, 3) := by decide +kernel
theorem dX11_comes_130 : decode cX11_comes 130 = .ok (.aload_n 0, 1) := by decide +kernel
theorem dX11_comes_131 : decode cX11_comes 131 = .ok (.iconst (-1), 1) := by decide +kernel
theorem dX11_comes_132 : decode cX11_comes 132 = .ok (.putfield 84, 3) := by decide +kernel
