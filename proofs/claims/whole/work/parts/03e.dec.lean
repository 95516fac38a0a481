theorem dX11_in_0 : decode cX11_in 0 = .ok (.iload_n 0, 1) := by decide +kernel
theorem dX11_in_1 : decode cX11_in 1 = .ok (.iload_n 1, 1) := by decide +kernel
theorem dX11_in_2 : decode cX11_in 2 = .ok (.if_icmp .lt 12, 3) := by decide +kernel
theorem dX11_in_5 : decode cX11_in 5 = .ok (.iload_n 0, 1) := by decide +kernel
theorem dX11_in_6 : decode cX11_in 6 = .ok (.iload_n 2, 1) := by decide +kernel
theorem dX11_in_7 : decode cX11_in 7 = .ok (.if_icmp .gt 7, 3) := by decide +kernel
theorem dX11_in_10 : decode cX11_in 10 = .ok (.iconst 1, 1) := by decide +kernel
theorem dX11_in_11 : decode cX11_in 11 = .ok (.goto 4, 3) := by decide +kernel
theorem dX11_in_14 : decode cX11_in 14 = .ok (.iconst 0, 1) := by decide +kernel
theorem dX11_in_15 : decode cX11_in 15 = .ok (.ireturn, 1) := by decide +kernel
theorem dX11_has_0 : decode cX11_has 0 = .ok (.iload_n 0, 1) := by decide +kernel
theorem dX11_has_1 : decode cX11_has 1 = .ok (.iload_n 1, 1) := by decide +kernel
theorem dX11_has_2 : decode cX11_has 2 = .ok (.ishr, 1) := by decide +kernel
theorem dX11_has_3 : decode cX11_has 3 = .ok (.iconst 1, 1) := by decide +kernel
theorem dX11_has_4 : decode cX11_has 4 = .ok (.iand, 1) := by decide +kernel
theorem dX11_has_5 : decode cX11_has 5 = .ok (.iconst 1, 1) := by decide +kernel
theorem dX11_has_6 : decode cX11_has 6 = .ok (.if_icmp .ne 7, 3) := by decide +kernel
theorem dX11_has_9 : decode cX11_has 9 = .ok (.iconst 1, 1) := by decide +kernel
theorem dX11_has_10 : decode cX11_has 10 = .ok (.goto 4, 3) := by decide +kernel
theorem dX11_has_13 : decode cX11_has 13 = .ok (.iconst 0, 1) := by decide +kernel
theorem dX11_has_14 : decode cX11_has 14 = .ok (.ireturn, 1) := by decide +kernel
theorem dX11_bits_0 : decode cX11_bits 0 = .ok (.iconst 0, 1) := by decide +kernel
theorem dX11_bits_1 : decode cX11_bits 1 = .ok (.istore_n 1, 1) := by decide +kernel
theorem dX11_bits_2 : decode cX11_bits 2 = .ok (.iconst 0, 1) := by decide +kernel
theorem dX11_bits_3 : decode cX11_bits 3 = .ok (.istore_n 2, 1) := by decide +kernel
theorem dX11_bits_4 : decode cX11_bits 4 = .ok (.iload_n 2, 1) := by decide +kernel
theorem dX11_bits_5 : decode cX11_bits 5 = .ok (.bipush 32, 2) := by decide +kernel
theorem dX11_bits_7 : decode cX11_bits 7 = .ok (.if_icmp .ge 17, 3) := by decide +kernel
theorem dX11_bits_10 : decode cX11_bits 10 = .ok (.iload_n 1, 1) := by decide +kernel
theorem dX11_bits_11 : decode cX11_bits 11 = .ok (.iload_n 0, 1) := by decide +kernel
theorem dX11_bits_12 : decode cX11_bits 12 = .ok (.iload_n 2, 1) := by decide +kernel
theorem dX11_bits_13 : decode cX11_bits 13 = .ok (.ishr, 1) := by decide +kernel
theorem dX11_bits_14 : decode cX11_bits 14 = .ok (.iconst 1, 1) := by decide +kernel
theorem dX11_bits_15 : decode cX11_bits 15 = .ok (.iand, 1) := by decide +kernel
theorem dX11_bits_16 : decode cX11_bits 16 = .ok (.iadd, 1) := by decide +kernel
theorem dX11_bits_17 : decode cX11_bits 17 = .ok (.istore_n 1, 1) := by decide +kernel
theorem dX11_bits_18 : decode cX11_bits 18 = .ok (.iinc 2 1, 3) := by decide +kernel
theorem dX11_bits_21 : decode cX11_bits 21 = .ok (.goto (-17), 3) := by decide +kernel
theorem dX11_bits_24 : decode cX11_bits 24 = .ok (.iload_n 1, 1) := by decide +kernel
theorem dX11_bits_25 : decode cX11_bits 25 = .ok (.ireturn, 1) := by decide +kernel
theorem dX11_init_0 : decode cX11_init 0 = .ok (.aload_n 0, 1) := by decide +kernel
theorem dX11_init_1 : decode cX11_init 1 = .ok (.invokespecial 1, 3) := by decide +kernel
theorem dX11_init_4 : decode cX11_init 4 = .ok (.aload_n 0, 1) := by decide +kernel
theorem dX11_init_5 : decode cX11_init 5 = .ok (.bipush 15, 2) := by decide +kernel
theorem dX11_init_7 : decode cX11_init 7 = .ok (.newarray .double, 2) := by decide +kernel
theorem dX11_init_9 : decode cX11_init 9 = .ok (.putfield 9, 3) := by decide +kernel
theorem dX11_init_12 : decode cX11_init 12 = .ok (.aload_n 0, 1) := by decide +kernel
theorem dX11_init_13 : decode cX11_init 13 = .ok (.bipush 15, 2) := by decide +kernel
theorem dX11_init_15 : decode cX11_init 15 = .ok (.newarray .double, 2) := by decide +kernel
theorem dX11_init_17 : decode cX11_init 17 = .ok (.putfield 13, 3) := by decide +kernel
theorem dX11_init_20 : decode cX11_init 20 = .ok (.aload_n 0, 1) := by decide +kernel
theorem dX11_init_21 : decode cX11_init 21 = .ok (.sipush 320, 3) := by decide +kernel
theorem dX11_init_24 : decode cX11_init 24 = .ok (.newarray .int, 2) := by decide +kernel
theorem dX11_init_26 : decode cX11_init 26 = .ok (.putfield 16, 3) := by decide +kernel
theorem dX11_init_29 : decode cX11_init 29 = .ok (.aload_n 0, 1) := by decide +kernel
theorem dX11_init_30 : decode cX11_init 30 = .ok (.iconst 5, 1) := by decide +kernel
theorem dX11_init_31 : decode cX11_init 31 = .ok (.newarray .int, 2) := by decide +kernel
theorem dX11_init_33 : decode cX11_init 33 = .ok (.putfield 20, 3) := by decide +kernel
theorem dX11_init_36 : decode cX11_init 36 = .ok (.aload_n 0, 1) := by decide +kernel
theorem dX11_init_37 : decode cX11_init 37 = .ok (.bipush 40, 2) := by decide +kernel
theorem dX11_init_39 : decode cX11_init 39 = .ok (.newarray .long, 2) := by decide +kernel
theorem dX11_init_41 : decode cX11_init 41 = .ok (.putfield 23, 3) := by decide +kernel
theorem dX11_init_44 : decode cX11_init 44 = .ok (.aload_n 0, 1) := by decide +kernel
theorem dX11_init_45 : decode cX11_init 45 = .ok (.bipush 16, 2) := by decide +kernel
theorem dX11_init_47 : decode cX11_init 47 = .ok (.newarray .long, 2) := by decide +kernel
theorem dX11_init_49 : decode cX11_init 49 = .ok (.putfield 27, 3) := by decide +kernel
theorem dX11_init_52 : decode cX11_init 52 = .ok (.aload_n 0, 1) := by decide +kernel
theorem dX11_init_53 : decode cX11_init 53 = .ok (.bipush 8, 2) := by decide +kernel
theorem dX11_init_55 : decode cX11_init 55 = .ok (.newarray .int, 2) := by decide +kernel
theorem dX11_init_57 : decode cX11_init 57 = .ok (.putfield 30, 3) := by decide +kernel
theorem dX11_init_60 : decode cX11_init 60 = .ok (.aload_n 0, 1) := by decide +kernel
theorem dX11_init_61 : decode cX11_init 61 = .ok (.bipush 64, 2) := by decide +kernel
theorem dX11_init_63 : decode cX11_init 63 = .ok (.newarray .long, 2) := by decide +kernel
theorem dX11_init_65 : decode cX11_init 65 = .ok (.putfield 33, 3) := by decide +kernel
theorem dX11_init_68 : decode cX11_init 68 = .ok (.aload_n 0, 1) := by decide +kernel
theorem dX11_init_69 : decode cX11_init 69 = .ok (.iconst 5, 1) := by decide +kernel
theorem dX11_init_70 : decode cX11_init 70 = .ok (.newarray .int, 2) := by decide +kernel
theorem dX11_init_72 : decode cX11_init 72 = .ok (.putfield 36, 3) := by decide +kernel
theorem dX11_init_75 : decode cX11_init 75 = .ok (.aload_n 0, 1) := by decide +kernel
theorem dX11_init_76 : decode cX11_init 76 = .ok (.sipush 180, 3) := by decide +kernel
theorem dX11_init_79 : decode cX11_init 79 = .ok (.newarray .int, 2) := by decide +kernel
theorem dX11_init_81 : decode cX11_init 81 = .ok (.putfield 39, 3) := by decide +kernel
theorem dX11_init_84 : decode cX11_init 84 = .ok (.aload_n 0, 1) := by decide +kernel
theorem dX11_init_85 : decode cX11_init 85 = .ok (.iconst 5, 1) := by decide +kernel
theorem dX11_init_86 : decode cX11_init 86 = .ok (.newarray .int, 2) := by decide +kernel
theorem dX11_init_88 : decode cX11_init 88 = .ok (.putfield 42, 3) := by decide +kernel
theorem dX11_init_91 : decode cX11_init 91 = .ok (.aload_n 0, 1) := by decide +kernel
theorem dX11_init_92 : decode cX11_init 92 = .ok (.bipush 64, 2) := by decide +kernel
theorem dX11_init_94 : decode cX11_init 94 = .ok (.newarray .long, 2) := by decide +kernel
theorem dX11_init_96 : decode cX11_init 96 = .ok (.putfield 45, 3) := by decide +kernel
theorem dX11_init_99 : decode cX11_init 99 = .ok (.aload_n 0, 1) := by decide +kernel
theorem dX11_init_100 : decode cX11_init 100 = .ok (.bipush 16, 2) := by decide +kernel
theorem dX11_init_102 : decode cX11_init 102 = .ok (.newarray .int, 2) := by decide +kernel
theorem dX11_init_104 : decode cX11_init 104 = .ok (.putfield 48, 3) := by decide +kernel
theorem dX11_init_107 : decode cX11_init 107 = .ok (.aload_n 0, 1) := by decide +kernel
theorem dX11_init_108 : decode cX11_init 108 = .ok (.bipush 16, 2) := by decide +kernel
theorem dX11_init_110 : decode cX11_init 110 = .ok (.newarray .int, 2) := by decide +kernel
theorem dX11_init_112 : decode cX11_init 112 = .ok (.putfield 51, 3) := by decide +kernel
theorem dX11_init_115 : decode cX11_init 115 = .ok (.aload_n 0, 1) := by decide +kernel
theorem dX11_init_116 : decode cX11_init 116 = .ok (.iconst 5, 1) := by decide +kernel
theorem dX11_init_117 : decode cX11_init 117 = .ok (.newarray .int, 2) := by decide +kernel
theorem dX11_init_119 : decode cX11_init 119 = .ok (.putfield 54, 3) := by decide +kernel
theorem dX11_init_122 : decode cX11_init 122 = .ok (.aload_n 0, 1) := by decide +kernel
theorem dX11_init_123 : decode cX11_init 123 = .ok (.iconst 5, 1) := by decide +kernel
theorem dX11_init_124 : decode cX11_init 124 = .ok (.newarray .int, 2) := by decide +kernel
theorem dX11_init_126 : decode cX11_init 126 = .ok (.putfield 57, 3) := by decide +kernel
theorem dX11_init_129 : decode cX11_init 129 = .ok (.aload_n 0, 1) := by decide +kernel
theorem dX11_init_130 : decode cX11_init 130 = .ok (.sipush 400, 3) := by decide +kernel
theorem dX11_init_133 : decode cX11_init 133 = .ok (.newarray .int, 2) := by decide +kernel
theorem dX11_init_135 : decode cX11_init 135 = .ok (.putfield 60, 3) := by decide +kernel
theorem dX11_init_138 : decode cX11_init 138 = .ok (.aload_n 0, 1) := by decide +kernel
theorem dX11_init_139 : decode cX11_init 139 = .ok (.sipush 2560, 3) := by decide +kernel
theorem dX11_init_142 : decode cX11_init 142 = .ok (.newarray .long, 2) := by decide +kernel
theorem dX11_init_144 : decode cX11_init 144 = .ok (.putfield 63, 3) := by decide +kernel
theorem dX11_init_147 : decode cX11_init 147 = .ok (.aload_n 0, 1) := by decide +kernel
theorem dX11_init_148 : decode cX11_init 148 = .ok (.sipush 200, 3) := by decide +kernel
theorem dX11_init_151 : decode cX11_init 151 = .ok (.newarray .int, 2) := by decide +kernel
theorem dX11_init_153 : decode cX11_init 153 = .ok (.putfield 66, 3) := by decide +kernel
theorem dX11_init_156 : decode cX11_init 156 = .ok (.aload_n 0, 1) := by decide +kernel
theorem dX11_init_157 : decode cX11_init 157 = .ok (.sipush 7200, 3) := by decide +kernel
theorem dX11_init_160 : decode cX11_init 160 = .ok (.newarray .int, 2) := by decide +kernel
theorem dX11_init_162 : decode cX11_init 162 = .ok (.putfield 69, 3) := by decide +kernel
theorem dX11_init_165 : decode cX11_init 165 = .ok (.aload_n 0, 1) := by decide +kernel
theorem dX11_init_166 : decode cX11_init 166 = .ok (.bipush 40, 2) := by decide +kernel
theorem dX11_init_168 : decode cX11_init 168 = .ok (.newarray .int, 2) := by decide +kernel
theorem dX11_init_170 : decode cX11_init 170 = .ok (.putfield 72, 3) := by decide +kernel
theorem dX11_init_173 : decode cX11_init 173 = .ok (.aload_n 0, 1) := by decide +kernel
theorem dX11_init_174 : decode cX11_init 174 = .ok (.bipush 40, 2) := by decide +kernel
theorem dX11_init_176 : decode cX11_init 176 = .ok (.newarray .int, 2) := by decide +kernel
theorem dX11_init_178 : decode cX11_init 178 = .ok (.putfield 75, 3) := by decide +kernel
theorem dX11_init_181 : decode cX11_init 181 = .ok (.aload_n 0, 1) := by decide +kernel
theorem dX11_init_182 : decode cX11_init 182 = .ok (.bipush 64, 2) := by decide +kernel
theorem dX11_init_184 : decode cX11_init 184 = .ok (.newarray .double, 2) := by decide +kernel
theorem dX11_init_186 : decode cX11_init 186 = .ok (.putfield 78, 3) := by decide +kernel
theorem dX11_init_189 : decode cX11_init 189 = .ok (.aload_n 0, 1) := by decide +kernel
theorem dX11_init_190 : decode cX11_init 190 = .ok (.bipush 64, 2) := by decide +kernel
theorem dX11_init_192 : decode cX11_init 192 = .ok (.newarray .long, 2) := by decide +kernel
theorem dX11_init_194 : decode cX11_init 194 = .ok (.putfield 81, 3) := by decide +kernel
theorem dX11_init_197 : decode cX11_init 197 = .ok (.aload_n 0, 1) := by decide +kernel
theorem dX11_init_198 : decode cX11_init 198 = .ok (.iconst 5, 1) := by decide +kernel
theorem dX11_init_199 : decode cX11_init 199 = .ok (.newarray .int, 2) := by decide +kernel
theorem dX11_init_201 : decode cX11_init 201 = .ok (.putfield 84, 3) := by decide +kernel
theorem dX11_init_204 : decode cX11_init 204 = .ok (.aload_n 0, 1) := by decide +kernel
theorem dX11_init_205 : decode cX11_init 205 = .ok (.sipush 180, 3) := by decide +kernel
theorem dX11_init_208 : decode cX11_init 208 = .ok (.newarray .int, 2) := by decide +kernel
theorem dX11_init_210 : decode cX11_init 210 = .ok (.putfield 87, 3) := by decide +kernel
theorem dX11_init_213 : decode cX11_init 213 = .ok (.lconst 1, 1) := by decide +kernel
theorem dX11_init_214 : decode cX11_init 214 = .ok (.lstore_n 1, 1) := by decide +kernel
theorem dX11_init_215 : decode cX11_init 215 = .ok (.iconst 0, 1) := by decide +kernel
theorem dX11_init_216 : decode cX11_init 216 = .ok (.istore_n 3, 1) := by decide +kernel
theorem dX11_init_217 : decode cX11_init 217 = .ok (.iload_n 3, 1) := by decide +kernel
theorem dX11_init_218 : decode cX11_init 218 = .ok (.bipush 15, 2) := by decide +kernel
theorem dX11_init_220 : decode cX11_init 220 = .ok (.if_icmp .ge 37, 3) := by decide +kernel
theorem dX11_init_223 : decode cX11_init 223 = .ok (.aload_n 0, 1) := by decide +kernel
theorem dX11_init_224 : decode cX11_init 224 = .ok (.getfield 9, 3) := by decide +kernel
theorem dX11_init_227 : decode cX11_init 227 = .ok (.iload_n 3, 1) := by decide +kernel
theorem dX11_init_228 : decode cX11_init 228 = .ok (.lload_n 1, 1) := by decide +kernel
theorem dX11_init_229 : decode cX11_init 229 = .ok (.l2d, 1) := by decide +kernel
theorem dX11_init_230 : decode cX11_init 230 = .ok (.dastore, 1) := by decide +kernel
theorem dX11_init_231 : decode cX11_init 231 = .ok (.aload_n 0, 1) := by decide +kernel
theorem dX11_init_232 : decode cX11_init 232 = .ok (.getfield 13, 3) := by decide +kernel
theorem dX11_init_235 : decode cX11_init 235 = .ok (.iload_n 3, 1) := by decide +kernel
theorem dX11_init_236 : decode cX11_init 236 = .ok (.dconst 1, 1) := by decide +kernel
theorem dX11_init_237 : decode cX11_init 237 = .ok (.aload_n 0, 1) := by decide +kernel
theorem dX11_init_238 : decode cX11_init 238 = .ok (.getfield 9, 3) := by decide +kernel
theorem dX11_init_241 : decode cX11_init 241 = .ok (.iload_n 3, 1) := by decide +kernel
theorem dX11_init_242 : decode cX11_init 242 = .ok (.daload, 1) := by decide +kernel
theorem dX11_init_243 : decode cX11_init 243 = .ok (.ddiv, 1) := by decide +kernel
theorem dX11_init_244 : decode cX11_init 244 = .ok (.dastore, 1) := by decide +kernel
theorem dX11_init_245 : decode cX11_init 245 = .ok (.lload_n 1, 1) := by decide +kernel
theorem dX11_init_246 : decode cX11_init 246 = .ok (.ldc2_w 90, 3) := by decide +kernel
theorem dX11_init_249 : decode cX11_init 249 = .ok (.lmul, 1) := by decide +kernel
theorem dX11_init_250 : decode cX11_init 250 = .ok (.lstore_n 1, 1) := by decide +kernel
theorem dX11_init_251 : decode cX11_init 251 = .ok (.iinc 3 1, 3) := by decide +kernel
theorem dX11_init_254 : decode cX11_init 254 = .ok (.goto (-37), 3) := by decide +kernel
theorem dX11_init_257 : decode cX11_init 257 = .ok (.return_, 1) := by decide +kernel
theorem dX11_thrown_0 : decode cX11_thrown 0 = .ok (.aload_n 0, 1) := by decide +kernel
theorem dX11_thrown_1 : decode cX11_thrown 1 = .ok (.getfield 92, 3) := by decide +kernel
theorem dX11_thrown_4 : decode cX11_thrown 4 = .ok (.ireturn, 1) := by decide +kernel
theorem dX11_feed_0 : decode cX11_feed 0 = .ok (.aload_n 0, 1) := by decide +kernel
theorem dX11_feed_1 : decode cX11_feed 1 = .ok (.getfield 96, 3) := by decide +kernel
theorem dX11_feed_4 : decode cX11_feed 4 = .ok (.bipush 20, 2) := by decide +kernel
theorem dX11_feed_6 : decode cX11_feed 6 = .ok (.iadd, 1) := by decide +kernel
theorem dX11_feed_7 : decode cX11_feed 7 = .ok (.sipush 320, 3) := by decide +kernel
theorem dX11_feed_10 : decode cX11_feed 10 = .ok (.if_icmp .le 5, 3) := by decide +kernel
theorem dX11_feed_13 : decode cX11_feed 13 = .ok (.iconst (-1), 1) := by decide +kernel
theorem dX11_feed_14 : decode cX11_feed 14 = .ok (.ireturn, 1) := by decide +kernel
theorem dX11_feed_15 : decode cX11_feed 15 = .ok (.iconst 0, 1) := by decide +kernel
theorem dX11_feed_16 : decode cX11_feed 16 = .ok (.istore 6, 2) := by decide +kernel
theorem dX11_feed_18 : decode cX11_feed 18 = .ok (.iload 6, 2) := by decide +kernel
theorem dX11_feed_20 : decode cX11_feed 20 = .ok (.bipush 20, 2) := by decide +kernel
theorem dX11_feed_22 : decode cX11_feed 22 = .ok (.if_icmp .ge 93, 3) := by decide +kernel
theorem dX11_feed_25 : decode cX11_feed 25 = .ok (.iload 6, 2) := by decide +kernel
theorem dX11_feed_27 : decode cX11_feed 27 = .ok (.iconst 4, 1) := by decide +kernel
theorem dX11_feed_28 : decode cX11_feed 28 = .ok (.if_icmp .ge 7, 3) := by decide +kernel
theorem dX11_feed_31 : decode cX11_feed 31 = .ok (.iload_n 1, 1) := by decide +kernel
theorem dX11_feed_32 : decode cX11_feed 32 = .ok (.goto 39, 3) := by decide +kernel
theorem dX11_feed_35 : decode cX11_feed 35 = .ok (.iload 6, 2) := by decide +kernel
theorem dX11_feed_37 : decode cX11_feed 37 = .ok (.bipush 8, 2) := by decide +kernel
theorem dX11_feed_39 : decode cX11_feed 39 = .ok (.if_icmp .ge 7, 3) := by decide +kernel
theorem dX11_feed_42 : decode cX11_feed 42 = .ok (.iload_n 2, 1) := by decide +kernel
theorem dX11_feed_43 : decode cX11_feed 43 = .ok (.goto 28, 3) := by decide +kernel
theorem dX11_feed_46 : decode cX11_feed 46 = .ok (.iload 6, 2) := by decide +kernel
theorem dX11_feed_48 : decode cX11_feed 48 = .ok (.bipush 12, 2) := by decide +kernel
theorem dX11_feed_50 : decode cX11_feed 50 = .ok (.if_icmp .ge 7, 3) := by decide +kernel
theorem dX11_feed_53 : decode cX11_feed 53 = .ok (.iload_n 3, 1) := by decide +kernel
theorem dX11_feed_54 : decode cX11_feed 54 = .ok (.goto 17, 3) := by decide +kernel
theorem dX11_feed_57 : decode cX11_feed 57 = .ok (.iload 6, 2) := by decide +kernel
theorem dX11_feed_59 : decode cX11_feed 59 = .ok (.bipush 16, 2) := by decide +kernel
theorem dX11_feed_61 : decode cX11_feed 61 = .ok (.if_icmp .ge 8, 3) := by decide +kernel
theorem dX11_feed_64 : decode cX11_feed 64 = .ok (.iload 4, 2) := by decide +kernel
theorem dX11_feed_66 : decode cX11_feed 66 = .ok (.goto 5, 3) := by decide +kernel
theorem dX11_feed_69 : decode cX11_feed 69 = .ok (.iload 5, 2) := by decide +kernel
theorem dX11_feed_71 : decode cX11_feed 71 = .ok (.istore 7, 2) := by decide +kernel
theorem dX11_feed_73 : decode cX11_feed 73 = .ok (.aload_n 0, 1) := by decide +kernel
theorem dX11_feed_74 : decode cX11_feed 74 = .ok (.getfield 16, 3) := by decide +kernel
theorem dX11_feed_77 : decode cX11_feed 77 = .ok (.aload_n 0, 1) := by decide +kernel
theorem dX11_feed_78 : decode cX11_feed 78 = .ok (.getfield 96, 3) := by decide +kernel
theorem dX11_feed_81 : decode cX11_feed 81 = .ok (.iload 7, 2) := by decide +kernel
theorem dX11_feed_83 : decode cX11_feed 83 = .ok (.bipush 24, 2) := by decide +kernel
theorem dX11_feed_85 : decode cX11_feed 85 = .ok (.bipush 8, 2) := by decide +kernel
theorem dX11_feed_87 : decode cX11_feed 87 = .ok (.iload 6, 2) := by decide +kernel
theorem dX11_feed_89 : decode cX11_feed 89 = .ok (.iconst 4, 1) := by decide +kernel
theorem dX11_feed_90 : decode cX11_feed 90 = .ok (.irem, 1) := by decide +kernel
theorem dX11_feed_91 : decode cX11_feed 91 = .ok (.imul, 1) := by decide +kernel
theorem dX11_feed_92 : decode cX11_feed 92 = .ok (.isub, 1) := by decide +kernel
theorem dX11_feed_93 : decode cX11_feed 93 = .ok (.ishr, 1) := by decide +kernel
theorem dX11_feed_94 : decode cX11_feed 94 = .ok (.sipush 255, 3) := by decide +kernel
theorem dX11_feed_97 : decode cX11_feed 97 = .ok (.iand, 1) := by decide +kernel
theorem dX11_feed_98 : decode cX11_feed 98 = .ok (.iastore, 1) := by decide +kernel
theorem dX11_feed_99 : decode cX11_feed 99 = .ok (.aload_n 0, 1) := by decide +kernel
theorem dX11_feed_100 : decode cX11_feed 100 = .ok (.dup, 1) := by decide +kernel
theorem dX11_feed_101 : decode cX11_feed 101 = .ok (.getfield 96, 3) := by decide +kernel
theorem dX11_feed_104 : decode cX11_feed 104 = .ok (.iconst 1, 1) := by decide +kernel
theorem dX11_feed_105 : decode cX11_feed 105 = .ok (.iadd, 1) := by decide +kernel
theorem dX11_feed_106 : decode cX11_feed 106 = .ok (.putfield 96, 3) := by decide +kernel
theorem dX11_feed_109 : decode cX11_feed 109 = .ok (.iinc 6 1, 3) := by decide +kernel
theorem dX11_feed_112 : decode cX11_feed 112 = .ok (.goto (-94), 3) := by decide +kernel
theorem dX11_feed_115 : decode cX11_feed 115 = .ok (.aload_n 0, 1) := by decide +kernel
theorem dX11_feed_116 : decode cX11_feed 116 = .ok (.getfield 96, 3) := by decide +kernel
theorem dX11_feed_119 : decode cX11_feed 119 = .ok (.ireturn, 1) := by decide +kernel
theorem dX11_end_0 : decode cX11_end 0 = .ok (.iload_n 1, 1) := by decide +kernel
theorem dX11_end_1 : decode cX11_end 1 = .ok (.iconst 0, 1) := by decide +kernel
theorem dX11_end_2 : decode cX11_end 2 = .ok (.aload_n 0, 1) := by decide +kernel
theorem dX11_end_3 : decode cX11_end 3 = .ok (.getfield 96, 3) := by decide +kernel
theorem dX11_end_6 : decode cX11_end 6 = .ok (.invokestatic 99, 3) := by decide +kernel
theorem dX11_end_9 : decode cX11_end 9 = .ok (.ifCond .ne 5, 3) := by decide +kernel
theorem dX11_end_12 : decode cX11_end 12 = .ok (.iconst 0, 1) := by decide +kernel
theorem dX11_end_13 : decode cX11_end 13 = .ok (.ireturn, 1) := by decide +kernel
theorem dX11_end_14 : decode cX11_end 14 = .ok (.aload_n 0, 1) := by decide +kernel
theorem dX11_end_15 : decode cX11_end 15 = .ok (.iload_n 1, 1) := by decide +kernel
theorem dX11_end_16 : decode cX11_end 16 = .ok (.putfield 96, 3) := by decide +kernel
theorem dX11_end_19 : decode cX11_end 19 = .ok (.iconst 1, 1) := by decide +kernel
theorem dX11_end_20 : decode cX11_end 20 = .ok (.ireturn, 1) := by decide +kernel
theorem dX11_here_0 : decode cX11_here 0 = .ok (.aload_n 0, 1) := by decide +kernel
theorem dX11_here_1 : decode cX11_here 1 = .ok (.getfield 103, 3) := by decide +kernel
theorem dX11_here_4 : decode cX11_here 4 = .ok (.aload_n 0, 1) := by decide +kernel
theorem dX11_here_5 : decode cX11_here 5 = .ok (.getfield 96, 3) := by decide +kernel
theorem dX11_here_8 : decode cX11_here 8 = .ok (.if_icmp .ge 15, 3) := by decide +kernel
theorem dX11_here_11 : decode cX11_here 11 = .ok (.aload_n 0, 1) := by decide +kernel
theorem dX11_here_12 : decode cX11_here 12 = .ok (.getfield 16, 3) := by decide +kernel
theorem dX11_here_15 : decode cX11_here 15 = .ok (.aload_n 0, 1) := by decide +kernel
theorem dX11_here_16 : decode cX11_here 16 = .ok (.getfield 103, 3) := by decide +kernel
theorem dX11_here_19 : decode cX11_here 19 = .ok (.iaload, 1) := by decide +kernel
theorem dX11_here_20 : decode cX11_here 20 = .ok (.goto 4, 3) := by decide +kernel
theorem dX11_here_23 : decode cX11_here 23 = .ok (.iconst (-1), 1) := by decide +kernel
theorem dX11_here_24 : decode cX11_here 24 = .ok (.ireturn, 1) := by decide +kernel
theorem dX11_ahead_0 : decode cX11_ahead 0 = .ok (.aload_n 0, 1) := by decide +kernel
theorem dX11_ahead_1 : decode cX11_ahead 1 = .ok (.invokevirtual 106, 3) := by decide +kernel
theorem dX11_ahead_4 : decode cX11_ahead 4 = .ok (.bipush 32, 2) := by decide +kernel
theorem dX11_ahead_6 : decode cX11_ahead 6 = .ok (.if_icmp .ne 16, 3) := by decide +kernel
theorem dX11_ahead_9 : decode cX11_ahead 9 = .ok (.aload_n 0, 1) := by decide +kernel
theorem dX11_ahead_10 : decode cX11_ahead 10 = .ok (.dup, 1) := by decide +kernel
theorem dX11_ahead_11 : decode cX11_ahead 11 = .ok (.getfield 103, 3) := by decide +kernel
theorem dX11_ahead_14 : decode cX11_ahead 14 = .ok (.iconst 1, 1) := by decide +kernel
theorem dX11_ahead_15 : decode cX11_ahead 15 = .ok (.iadd, 1) := by decide +kernel
theorem dX11_ahead_16 : decode cX11_ahead 16 = .ok (.putfield 103, 3) := by decide +kernel
theorem dX11_ahead_19 : decode cX11_ahead 19 = .ok (.goto (-19), 3) := by decide +kernel
theorem dX11_ahead_22 : decode cX11_ahead 22 = .ok (.aload_n 0, 1) := by decide +kernel
theorem dX11_ahead_23 : decode cX11_ahead 23 = .ok (.invokevirtual 106, 3) := by decide +kernel
theorem dX11_ahead_26 : decode cX11_ahead 26 = .ok (.ireturn, 1) := by decide +kernel
theorem dX11_bad_0 : decode cX11_bad 0 = .ok (.aload_n 0, 1) := by decide +kernel
theorem dX11_bad_1 : decode cX11_bad 1 = .ok (.aload_n 0, 1) := by decide +kernel
theorem dX11_bad_2 : decode cX11_bad 2 = .ok (.getfield 110, 3) := by decide +kernel
theorem dX11_bad_5 : decode cX11_bad 5 = .ok (.iconst (-1), 1) := by decide +kernel
theorem dX11_bad_6 : decode cX11_bad 6 = .ok (.if_icmp .ne 10, 3) := by decide +kernel
theorem dX11_bad_9 : decode cX11_bad 9 = .ok (.aload_n 0, 1) := by decide +kernel
theorem dX11_bad_10 : decode cX11_bad 10 = .ok (.getfield 103, 3) := by decide +kernel
theorem dX11_bad_13 : decode cX11_bad 13 = .ok (.goto 7, 3) := by decide +kernel
theorem dX11_bad_16 : decode cX11_bad 16 = .ok (.aload_n 0, 1) := by decide +kernel
theorem dX11_bad_17 : decode cX11_bad 17 = .ok (.getfield 110, 3) := by decide +kernel
theorem dX11_bad_20 : decode cX11_bad 20 = .ok (.putfield 110, 3) := by decide +kernel
theorem dX11_bad_23 : decode cX11_bad 23 = .ok (.return_, 1) := by decide +kernel
theorem dX11_isDigit_0 : decode cX11_isDigit 0 = .ok (.iload_n 0, 1) := by decide +kernel
theorem dX11_isDigit_1 : decode cX11_isDigit 1 = .ok (.bipush 48, 2) := by decide +kernel
theorem dX11_isDigit_3 : decode cX11_isDigit 3 = .ok (.if_icmp .lt 13, 3) := by decide +kernel
theorem dX11_isDigit_6 : decode cX11_isDigit 6 = .ok (.iload_n 0, 1) := by decide +kernel
theorem dX11_isDigit_7 : decode cX11_isDigit 7 = .ok (.bipush 57, 2) := by decide +kernel
theorem dX11_isDigit_9 : decode cX11_isDigit 9 = .ok (.if_icmp .gt 7, 3) := by decide +kernel
theorem dX11_isDigit_12 : decode cX11_isDigit 12 = .ok (.iconst 1, 1) := by decide +kernel
theorem dX11_isDigit_13 : decode cX11_isDigit 13 = .ok (.goto 4, 3) := by decide +kernel
theorem dX11_isDigit_16 : decode cX11_isDigit 16 = .ok (.iconst 0, 1) := by decide +kernel
theorem dX11_isDigit_17 : decode cX11_isDigit 17 = .ok (.ireturn, 1) := by decide +kernel
theorem dX11_hexOf_0 : decode cX11_hexOf 0 = .ok (.iload_n 0, 1) := by decide +kernel
theorem dX11_hexOf_1 : decode cX11_hexOf 1 = .ok (.invokestatic 113, 3) := by decide +kernel
theorem dX11_hexOf_4 : decode cX11_hexOf 4 = .ok (.ifCond .eq 10, 3) := by decide +kernel
theorem dX11_hexOf_7 : decode cX11_hexOf 7 = .ok (.iload_n 0, 1) := by decide +kernel
theorem dX11_hexOf_8 : decode cX11_hexOf 8 = .ok (.bipush 48, 2) := by decide +kernel
theorem dX11_hexOf_10 : decode cX11_hexOf 10 = .ok (.isub, 1) := by decide +kernel
theorem dX11_hexOf_11 : decode cX11_hexOf 11 = .ok (.goto 26, 3) := by decide +kernel
theorem dX11_hexOf_14 : decode cX11_hexOf 14 = .ok (.iload_n 0, 1) := by decide +kernel
theorem dX11_hexOf_15 : decode cX11_hexOf 15 = .ok (.bipush 97, 2) := by decide +kernel
theorem dX11_hexOf_17 : decode cX11_hexOf 17 = .ok (.if_icmp .lt 19, 3) := by decide +kernel
theorem dX11_hexOf_20 : decode cX11_hexOf 20 = .ok (.iload_n 0, 1) := by decide +kernel
theorem dX11_hexOf_21 : decode cX11_hexOf 21 = .ok (.bipush 102, 2) := by decide +kernel
theorem dX11_hexOf_23 : decode cX11_hexOf 23 = .ok (.if_icmp .gt 13, 3) := by decide +kernel
theorem dX11_hexOf_26 : decode cX11_hexOf 26 = .ok (.iload_n 0, 1) := by decide +kernel
theorem dX11_hexOf_27 : decode cX11_hexOf 27 = .ok (.bipush 97, 2) := by decide +kernel
theorem dX11_hexOf_29 : decode cX11_hexOf 29 = .ok (.isub, 1) := by decide +kernel
theorem dX11_hexOf_30 : decode cX11_hexOf 30 = .ok (.bipush 10, 2) := by decide +kernel
theorem dX11_hexOf_32 : decode cX11_hexOf 32 = .ok (.iadd, 1) := by decide +kernel
theorem dX11_hexOf_33 : decode cX11_hexOf 33 = .ok (.goto 4, 3) := by decide +kernel
theorem dX11_hexOf_36 : decode cX11_hexOf 36 = .ok (.iconst (-1), 1) := by decide +kernel
theorem dX11_hexOf_37 : decode cX11_hexOf 37 = .ok (.ireturn, 1) := by decide +kernel
theorem dX11_number_0 : decode cX11_number 0 = .ok (.aload_n 0, 1) := by decide +kernel
theorem dX11_number_1 : decode cX11_number 1 = .ok (.invokevirtual 117, 3) := by decide +kernel
theorem dX11_number_4 : decode cX11_number 4 = .ok (.invokestatic 113, 3) := by decide +kernel
theorem dX11_number_7 : decode cX11_number 7 = .ok (.ifCond .ne 9, 3) := by decide +kernel
theorem dX11_number_10 : decode cX11_number 10 = .ok (.aload_n 0, 1) := by decide +kernel
theorem dX11_number_11 : decode cX11_number 11 = .ok (.invokevirtual 120, 3) := by decide +kernel
theorem dX11_number_14 : decode cX11_number 14 = .ok (.iload_n 1, 1) := by decide +kernel
theorem dX11_number_15 : decode cX11_number 15 = .ok (.ireturn, 1) := by decide +kernel
theorem dX11_number_16 : decode cX11_number 16 = .ok (.aload_n 0, 1) := by decide +kernel
theorem dX11_number_17 : decode cX11_number 17 = .ok (.invokevirtual 106, 3) := by decide +kernel
theorem dX11_number_20 : decode cX11_number 20 = .ok (.bipush 48, 2) := by decide +kernel
theorem dX11_number_22 : decode cX11_number 22 = .ok (.isub, 1) := by decide +kernel
theorem dX11_number_23 : decode cX11_number 23 = .ok (.istore_n 3, 1) := by decide +kernel
theorem dX11_number_24 : decode cX11_number 24 = .ok (.aload_n 0, 1) := by decide +kernel
theorem dX11_number_25 : decode cX11_number 25 = .ok (.dup, 1) := by decide +kernel
theorem dX11_number_26 : decode cX11_number 26 = .ok (.getfield 103, 3) := by decide +kernel
theorem dX11_number_29 : decode cX11_number 29 = .ok (.iconst 1, 1) := by decide +kernel
theorem dX11_number_30 : decode cX11_number 30 = .ok (.iadd, 1) := by decide +kernel
theorem dX11_number_31 : decode cX11_number 31 = .ok (.putfield 103, 3) := by decide +kernel
theorem dX11_number_34 : decode cX11_number 34 = .ok (.aload_n 0, 1) := by decide +kernel
theorem dX11_number_35 : decode cX11_number 35 = .ok (.invokevirtual 106, 3) := by decide +kernel
theorem dX11_number_38 : decode cX11_number 38 = .ok (.invokestatic 113, 3) := by decide +kernel
theorem dX11_number_41 : decode cX11_number 41 = .ok (.ifCond .eq 26, 3) := by decide +kernel
theorem dX11_number_44 : decode cX11_number 44 = .ok (.bipush 10, 2) := by decide +kernel
theorem dX11_number_46 : decode cX11_number 46 = .ok (.iload_n 3, 1) := by decide +kernel
theorem dX11_number_47 : decode cX11_number 47 = .ok (.imul, 1) := by decide +kernel
theorem dX11_number_48 : decode cX11_number 48 = .ok (.aload_n 0, 1) := by decide +kernel
theorem dX11_number_49 : decode cX11_number 49 = .ok (.invokevirtual 106, 3) := by decide +kernel
theorem dX11_number_52 : decode cX11_number 52 = .ok (.iadd, 1) := by decide +kernel
theorem dX11_number_53 : decode cX11_number 53 = .ok (.bipush 48, 2) := by decide +kernel
theorem dX11_number_55 : decode cX11_number 55 = .ok (.isub, 1) := by decide +kernel
theorem dX11_number_56 : decode cX11_number 56 = .ok (.istore_n 3, 1) := by decide +kernel
theorem dX11_number_57 : decode cX11_number 57 = .ok (.aload_n 0, 1) := by decide +kernel
theorem dX11_number_58 : decode cX11_number 58 = .ok (.dup, 1) := by decide +kernel
theorem dX11_number_59 : decode cX11_number 59 = .ok (.getfield 103, 3) := by decide +kernel
theorem dX11_number_62 : decode cX11_number 62 = .ok (.iconst 1, 1) := by decide +kernel
theorem dX11_number_63 : decode cX11_number 63 = .ok (.iadd, 1) := by decide +kernel
theorem dX11_number_64 : decode cX11_number 64 = .ok (.putfield 103, 3) := by decide +kernel
theorem dX11_number_67 : decode cX11_number 67 = .ok (.aload_n 0, 1) := by decide +kernel
theorem dX11_number_68 : decode cX11_number 68 = .ok (.invokevirtual 106, 3) := by decide +kernel
theorem dX11_number_71 : decode cX11_number 71 = .ok (.invokestatic 113, 3) := by decide +kernel
theorem dX11_number_74 : decode cX11_number 74 = .ok (.ifCond .eq 10, 3) := by decide +kernel
theorem dX11_number_77 : decode cX11_number 77 = .ok (.aload_n 0, 1) := by decide +kernel
theorem dX11_number_78 : decode cX11_number 78 = .ok (.invokevirtual 120, 3) := by decide +kernel
theorem dX11_number_81 : decode cX11_number 81 = .ok (.goto 26, 3) := by decide +kernel
theorem dX11_number_84 : decode cX11_number 84 = .ok (.iload_n 3, 1) := by decide +kernel
theorem dX11_number_85 : decode cX11_number 85 = .ok (.iload_n 1, 1) := by decide +kernel
theorem dX11_number_86 : decode cX11_number 86 = .ok (.iload_n 2, 1) := by decide +kernel
theorem dX11_number_87 : decode cX11_number 87 = .ok (.invokestatic 99, 3) := by decide +kernel
theorem dX11_number_90 : decode cX11_number 90 = .ok (.ifCond .ne 17, 3) := by decide +kernel
theorem dX11_number_93 : decode cX11_number 93 = .ok (.aload_n 0, 1) := by decide +kernel
theorem dX11_number_94 : decode cX11_number 94 = .ok (.dup, 1) := by decide +kernel
theorem dX11_number_95 : decode cX11_number 95 = .ok (.getfield 103, 3) := by decide +kernel
theorem dX11_number_98 : decode cX11_number 98 = .ok (.iconst 1, 1) := by decide +kernel
theorem dX11_number_99 : decode cX11_number 99 = .ok (.isub, 1) := by decide +kernel
theorem dX11_number_100 : decode cX11_number 100 = .ok (.putfield 103, 3) := by decide +kernel
theorem dX11_number_103 : decode cX11_number 103 = .ok (.aload_n 0, 1) := by decide +kernel
theorem dX11_number_104 : decode cX11_number 104 = .ok (.invokevirtual 120, 3) := by decide +kernel
theorem dX11_number_107 : decode cX11_number 107 = .ok (.iload_n 3, 1) := by decide +kernel
theorem dX11_number_108 : decode cX11_number 108 = .ok (.ireturn, 1) := by decide +kernel
theorem dX11_lowest_0 : decode cX11_lowest 0 = .ok (.iload_n 0, 1) := by decide +kernel
theorem dX11_lowest_1 : decode cX11_lowest 1 = .ok (.ifCond .ne 7, 3) := by decide +kernel
theorem dX11_lowest_4 : decode cX11_lowest 4 = .ok (.iconst 2, 1) := by decide +kernel
theorem dX11_lowest_5 : decode cX11_lowest 5 = .ok (.goto 22, 3) := by decide +kernel
theorem dX11_lowest_8 : decode cX11_lowest 8 = .ok (.iload_n 0, 1) := by decide +kernel
theorem dX11_lowest_9 : decode cX11_lowest 9 = .ok (.iconst 3, 1) := by decide +kernel
theorem dX11_lowest_10 : decode cX11_lowest 10 = .ok (.if_icmp .ne 7, 3) := by decide +kernel
theorem dX11_lowest_13 : decode cX11_lowest 13 = .ok (.iconst 4, 1) := by decide +kernel
theorem dX11_lowest_14 : decode cX11_lowest 14 = .ok (.goto 13, 3) := by decide +kernel
theorem dX11_lowest_17 : decode cX11_lowest 17 = .ok (.iload_n 0, 1) := by decide +kernel
theorem dX11_lowest_18 : decode cX11_lowest 18 = .ok (.iconst 2, 1) := by decide +kernel
theorem dX11_lowest_19 : decode cX11_lowest 19 = .ok (.if_icmp .ne 7, 3) := by decide +kernel
theorem dX11_lowest_22 : decode cX11_lowest 22 = .ok (.iconst 0, 1) := by decide +kernel
theorem dX11_lowest_23 : decode cX11_lowest 23 = .ok (.goto 4, 3) := by decide +kernel
theorem dX11_lowest_26 : decode cX11_lowest 26 = .ok (.iconst 1, 1) := by decide +kernel
theorem dX11_lowest_27 : decode cX11_lowest 27 = .ok (.ireturn, 1) := by decide +kernel
theorem dX11_highest_0 : decode cX11_highest 0 = .ok (.iload_n 0, 1) := by decide +kernel
theorem dX11_highest_1 : decode cX11_highest 1 = .ok (.iconst 2, 1) := by decide +kernel
theorem dX11_highest_2 : decode cX11_highest 2 = .ok (.if_icmp .ne 8, 3) := by decide +kernel
theorem dX11_highest_5 : decode cX11_highest 5 = .ok (.bipush 14, 2) := by decide +kernel
theorem dX11_highest_7 : decode cX11_highest 7 = .ok (.goto 15, 3) := by decide +kernel
theorem dX11_highest_10 : decode cX11_highest 10 = .ok (.iload_n 0, 1) := by decide +kernel
theorem dX11_highest_11 : decode cX11_highest 11 = .ok (.iconst 4, 1) := by decide +kernel
theorem dX11_highest_12 : decode cX11_highest 12 = .ok (.if_icmp .ne 8, 3) := by decide +kernel
theorem dX11_highest_15 : decode cX11_highest 15 = .ok (.bipush 8, 2) := by decide +kernel
theorem dX11_highest_17 : decode cX11_highest 17 = .ok (.goto 5, 3) := by decide +kernel
theorem dX11_highest_20 : decode cX11_highest 20 = .ok (.bipush 16, 2) := by decide +kernel
theorem dX11_highest_22 : decode cX11_highest 22 = .ok (.ireturn, 1) := by decide +kernel
theorem dX11_usual_0 : decode cX11_usual 0 = .ok (.iload_n 0, 1) := by decide +kernel
theorem dX11_usual_1 : decode cX11_usual 1 = .ok (.ifCond .ne 8, 3) := by decide +kernel
theorem dX11_usual_4 : decode cX11_usual 4 = .ok (.bipush 8, 2) := by decide +kernel
theorem dX11_usual_6 : decode cX11_usual 6 = .ok (.goto 24, 3) := by decide +kernel
theorem dX11_usual_9 : decode cX11_usual 9 = .ok (.iload_n 0, 1) := by decide +kernel
theorem dX11_usual_10 : decode cX11_usual 10 = .ok (.iconst 2, 1) := by decide +kernel
theorem dX11_usual_11 : decode cX11_usual 11 = .ok (.if_icmp .ne 8, 3) := by decide +kernel
theorem dX11_usual_14 : decode cX11_usual 14 = .ok (.bipush 10, 2) := by decide +kernel
theorem dX11_usual_16 : decode cX11_usual 16 = .ok (.goto 14, 3) := by decide +kernel
theorem dX11_usual_19 : decode cX11_usual 19 = .ok (.iload_n 0, 1) := by decide +kernel
theorem dX11_usual_20 : decode cX11_usual 20 = .ok (.iconst 3, 1) := by decide +kernel
theorem dX11_usual_21 : decode cX11_usual 21 = .ok (.if_icmp .ne 8, 3) := by decide +kernel
theorem dX11_usual_24 : decode cX11_usual 24 = .ok (.bipush 12, 2) := by decide +kernel
theorem dX11_usual_26 : decode cX11_usual 26 = .ok (.goto 4, 3) := by decide +kernel
theorem dX11_usual_29 : decode cX11_usual 29 = .ok (.iconst 4, 1) := by decide +kernel
theorem dX11_usual_30 : decode cX11_usual 30 = .ok (.ireturn, 1) := by decide +kernel
theorem dX11_ruleOf_0 : decode cX11_ruleOf 0 = .ok (.iload_n 0, 1) := by decide +kernel
theorem dX11_ruleOf_1 : decode cX11_ruleOf 1 = .ok (.bipush 98, 2) := by decide +kernel
theorem dX11_ruleOf_3 : decode cX11_ruleOf 3 = .ok (.if_icmp .ne 7, 3) := by decide +kernel
theorem dX11_ruleOf_6 : decode cX11_ruleOf 6 = .ok (.iconst 0, 1) := by decide +kernel
theorem dX11_ruleOf_7 : decode cX11_ruleOf 7 = .ok (.goto 44, 3) := by decide +kernel
theorem dX11_ruleOf_10 : decode cX11_ruleOf 10 = .ok (.iload_n 0, 1) := by decide +kernel
theorem dX11_ruleOf_11 : decode cX11_ruleOf 11 = .ok (.bipush 109, 2) := by decide +kernel
theorem dX11_ruleOf_13 : decode cX11_ruleOf 13 = .ok (.if_icmp .ne 7, 3) := by decide +kernel
theorem dX11_ruleOf_16 : decode cX11_ruleOf 16 = .ok (.iconst 1, 1) := by decide +kernel
theorem dX11_ruleOf_17 : decode cX11_ruleOf 17 = .ok (.goto 34, 3) := by decide +kernel
theorem dX11_ruleOf_20 : decode cX11_ruleOf 20 = .ok (.iload_n 0, 1) := by decide +kernel
theorem dX11_ruleOf_21 : decode cX11_ruleOf 21 = .ok (.bipush 101, 2) := by decide +kernel
theorem dX11_ruleOf_23 : decode cX11_ruleOf 23 = .ok (.if_icmp .ne 7, 3) := by decide +kernel
theorem dX11_ruleOf_26 : decode cX11_ruleOf 26 = .ok (.iconst 2, 1) := by decide +kernel
theorem dX11_ruleOf_27 : decode cX11_ruleOf 27 = .ok (.goto 24, 3) := by decide +kernel
theorem dX11_ruleOf_30 : decode cX11_ruleOf 30 = .ok (.iload_n 0, 1) := by decide +kernel
theorem dX11_ruleOf_31 : decode cX11_ruleOf 31 = .ok (.bipush 108, 2) := by decide +kernel
theorem dX11_ruleOf_33 : decode cX11_ruleOf 33 = .ok (.if_icmp .ne 7, 3) := by decide +kernel
theorem dX11_ruleOf_36 : decode cX11_ruleOf 36 = .ok (.iconst 3, 1) := by decide +kernel
theorem dX11_ruleOf_37 : decode cX11_ruleOf 37 = .ok (.goto 14, 3) := by decide +kernel
theorem dX11_ruleOf_40 : decode cX11_ruleOf 40 = .ok (.iload_n 0, 1) := by decide +kernel
theorem dX11_ruleOf_41 : decode cX11_ruleOf 41 = .ok (.bipush 100, 2) := by decide +kernel
theorem dX11_ruleOf_43 : decode cX11_ruleOf 43 = .ok (.if_icmp .ne 7, 3) := by decide +kernel
theorem dX11_ruleOf_46 : decode cX11_ruleOf 46 = .ok (.iconst 4, 1) := by decide +kernel
theorem dX11_ruleOf_47 : decode cX11_ruleOf 47 = .ok (.goto 4, 3) := by decide +kernel
theorem dX11_ruleOf_50 : decode cX11_ruleOf 50 = .ok (.iconst (-1), 1) := by decide +kernel
theorem dX11_ruleOf_51 : decode cX11_ruleOf 51 = .ok (.ireturn, 1) := by decide +kernel
theorem dX11_readRules_0 : decode cX11_readRules 0 = .ok (.iconst 0, 1) := by decide +kernel
theorem dX11_readRules_1 : decode cX11_readRules 1 = .ok (.istore_n 1, 1) := by decide +kernel
theorem dX11_readRules_2 : decode cX11_readRules 2 = .ok (.aload_n 0, 1) := by decide +kernel
theorem dX11_readRules_3 : decode cX11_readRules 3 = .ok (.invokevirtual 117, 3) := by decide +kernel
theorem dX11_readRules_6 : decode cX11_readRules 6 = .ok (.invokestatic 123, 3) := by decide +kernel
theorem dX11_readRules_9 : decode cX11_readRules 9 = .ok (.istore_n 2, 1) := by decide +kernel
theorem dX11_readRules_10 : decode cX11_readRules 10 = .ok (.aload_n 0, 1) := by decide +kernel
theorem dX11_readRules_11 : decode cX11_readRules 11 = .ok (.getfield 110, 3) := by decide +kernel
theorem dX11_readRules_14 : decode cX11_readRules 14 = .ok (.iconst (-1), 1) := by decide +kernel
theorem dX11_readRules_15 : decode cX11_readRules 15 = .ok (.if_icmp .ne 73, 3) := by decide +kernel
theorem dX11_readRules_18 : decode cX11_readRules 18 = .ok (.iload_n 2, 1) := by decide +kernel
theorem dX11_readRules_19 : decode cX11_readRules 19 = .ok (.iconst (-1), 1) := by decide +kernel
theorem dX11_readRules_20 : decode cX11_readRules 20 = .ok (.if_icmp .eq 68, 3) := by decide +kernel
theorem dX11_readRules_23 : decode cX11_readRules 23 = .ok (.iload_n 1, 1) := by decide +kernel
theorem dX11_readRules_24 : decode cX11_readRules 24 = .ok (.iload_n 2, 1) := by decide +kernel
theorem dX11_readRules_25 : decode cX11_readRules 25 = .ok (.invokestatic 127, 3) := by decide +kernel
theorem dX11_readRules_28 : decode cX11_readRules 28 = .ok (.ifCond .ne 60, 3) := by decide +kernel
theorem dX11_readRules_31 : decode cX11_readRules 31 = .ok (.iload_n 1, 1) := by decide +kernel
theorem dX11_readRules_32 : decode cX11_readRules 32 = .ok (.iconst 1, 1) := by decide +kernel
theorem dX11_readRules_33 : decode cX11_readRules 33 = .ok (.iload_n 2, 1) := by decide +kernel
theorem dX11_readRules_34 : decode cX11_readRules 34 = .ok (.ishl, 1) := by decide +kernel
theorem dX11_readRules_35 : decode cX11_readRules 35 = .ok (.ior, 1) := by decide +kernel
theorem dX11_readRules_36 : decode cX11_readRules 36 = .ok (.istore_n 1, 1) := by decide +kernel
theorem dX11_readRules_37 : decode cX11_readRules 37 = .ok (.aload_n 0, 1) := by decide +kernel
theorem dX11_readRules_38 : decode cX11_readRules 38 = .ok (.dup, 1) := by decide +kernel
theorem dX11_readRules_39 : decode cX11_readRules 39 = .ok (.getfield 103, 3) := by decide +kernel
theorem dX11_readRules_42 : decode cX11_readRules 42 = .ok (.iconst 1, 1) := by decide +kernel
theorem dX11_readRules_43 : decode cX11_readRules 43 = .ok (.iadd, 1) := by decide +kernel
theorem dX11_readRules_44 : decode cX11_readRules 44 = .ok (.putfield 103, 3) := by decide +kernel
theorem dX11_readRules_47 : decode cX11_readRules 47 = .ok (.aload_n 0, 1) := by decide +kernel
theorem dX11_readRules_48 : decode cX11_readRules 48 = .ok (.getfield 20, 3) := by decide +kernel
theorem dX11_readRules_51 : decode cX11_readRules 51 = .ok (.iload_n 2, 1) := by decide +kernel
theorem dX11_readRules_52 : decode cX11_readRules 52 = .ok (.aload_n 0, 1) := by decide +kernel
theorem dX11_readRules_53 : decode cX11_readRules 53 = .ok (.iload_n 2, 1) := by decide +kernel
theorem dX11_readRules_54 : decode cX11_readRules 54 = .ok (.invokestatic 131, 3) := by decide +kernel
theorem dX11_readRules_57 : decode cX11_readRules 57 = .ok (.iload_n 2, 1) := by decide +kernel
theorem dX11_readRules_58 : decode cX11_readRules 58 = .ok (.invokestatic 134, 3) := by decide +kernel
theorem dX11_readRules_61 : decode cX11_readRules 61 = .ok (.invokevirtual 137, 3) := by decide +kernel
theorem dX11_readRules_64 : decode cX11_readRules 64 = .ok (.iastore, 1) := by decide +kernel
theorem dX11_readRules_65 : decode cX11_readRules 65 = .ok (.aload_n 0, 1) := by decide +kernel
theorem dX11_readRules_66 : decode cX11_readRules 66 = .ok (.getfield 110, 3) := by decide +kernel
theorem dX11_readRules_69 : decode cX11_readRules 69 = .ok (.iconst (-1), 1) := by decide +kernel
theorem dX11_readRules_70 : decode cX11_readRules 70 = .ok (.if_icmp .ne 13, 3) := by decide +kernel
theorem dX11_readRules_73 : decode cX11_readRules 73 = .ok (.aload_n 0, 1) := by decide +kernel
theorem dX11_readRules_74 : decode cX11_readRules 74 = .ok (.invokevirtual 117, 3) := by decide +kernel
theorem dX11_readRules_77 : decode cX11_readRules 77 = .ok (.invokestatic 123, 3) := by decide +kernel
theorem dX11_readRules_80 : decode cX11_readRules 80 = .ok (.goto 4, 3) := by decide +kernel
theorem dX11_readRules_83 : decode cX11_readRules 83 = .ok (.iconst (-1), 1) := by decide +kernel
theorem dX11_readRules_84 : decode cX11_readRules 84 = .ok (.istore_n 2, 1) := by decide +kernel
theorem dX11_readRules_85 : decode cX11_readRules 85 = .ok (.goto (-75), 3) := by decide +kernel
theorem dX11_readRules_88 : decode cX11_readRules 88 = .ok (.return_, 1) := by decide +kernel
theorem dX11_readBits_0 : decode cX11_readBits 0 = .ok (.lconst 0, 1) := by decide +kernel
theorem dX11_readBits_1 : decode cX11_readBits 1 = .ok (.lstore_n 1, 1) := by decide +kernel
theorem dX11_readBits_2 : decode cX11_readBits 2 = .ok (.iconst 0, 1) := by decide +kernel
theorem dX11_readBits_3 : decode cX11_readBits 3 = .ok (.istore_n 3, 1) := by decide +kernel
theorem dX11_readBits_4 : decode cX11_readBits 4 = .ok (.iload_n 3, 1) := by decide +kernel
theorem dX11_readBits_5 : decode cX11_readBits 5 = .ok (.bipush 16, 2) := by decide +kernel
theorem dX11_readBits_7 : decode cX11_readBits 7 = .ok (.if_icmp .ge 43, 3) := by decide +kernel
theorem dX11_readBits_10 : decode cX11_readBits 10 = .ok (.aload_n 0, 1) := by decide +kernel
theorem dX11_readBits_11 : decode cX11_readBits 11 = .ok (.invokevirtual 106, 3) := by decide +kernel
theorem dX11_readBits_14 : decode cX11_readBits 14 = .ok (.invokestatic 141, 3) := by decide +kernel
theorem dX11_readBits_17 : decode cX11_readBits 17 = .ok (.iconst (-1), 1) := by decide +kernel
theorem dX11_readBits_18 : decode cX11_readBits 18 = .ok (.if_icmp .eq 32, 3) := by decide +kernel
theorem dX11_readBits_21 : decode cX11_readBits 21 = .ok (.lload_n 1, 1) := by decide +kernel
theorem dX11_readBits_22 : decode cX11_readBits 22 = .ok (.iconst 4, 1) := by decide +kernel
theorem dX11_readBits_23 : decode cX11_readBits 23 = .ok (.lshl, 1) := by decide +kernel
theorem dX11_readBits_24 : decode cX11_readBits 24 = .ok (.aload_n 0, 1) := by decide +kernel
theorem dX11_readBits_25 : decode cX11_readBits 25 = .ok (.invokevirtual 106, 3) := by decide +kernel
theorem dX11_readBits_28 : decode cX11_readBits 28 = .ok (.invokestatic 141, 3) := by decide +kernel
theorem dX11_readBits_31 : decode cX11_readBits 31 = .ok (.i2l, 1) := by decide +kernel
theorem dX11_readBits_32 : decode cX11_readBits 32 = .ok (.lor, 1) := by decide +kernel
theorem dX11_readBits_33 : decode cX11_readBits 33 = .ok (.lstore_n 1, 1) := by decide +kernel
theorem dX11_readBits_34 : decode cX11_readBits 34 = .ok (.aload_n 0, 1) := by decide +kernel
theorem dX11_readBits_35 : decode cX11_readBits 35 = .ok (.dup, 1) := by decide +kernel
theorem dX11_readBits_36 : decode cX11_readBits 36 = .ok (.getfield 103, 3) := by decide +kernel
theorem dX11_readBits_39 : decode cX11_readBits 39 = .ok (.iconst 1, 1) := by decide +kernel
theorem dX11_readBits_40 : decode cX11_readBits 40 = .ok (.iadd, 1) := by decide +kernel
theorem dX11_readBits_41 : decode cX11_readBits 41 = .ok (.putfield 103, 3) := by decide +kernel
theorem dX11_readBits_44 : decode cX11_readBits 44 = .ok (.iinc 3 1, 3) := by decide +kernel
theorem dX11_readBits_47 : decode cX11_readBits 47 = .ok (.goto (-43), 3) := by decide +kernel
theorem dX11_readBits_50 : decode cX11_readBits 50 = .ok (.iload_n 3, 1) := by decide +kernel
theorem dX11_readBits_51 : decode cX11_readBits 51 = .ok (.ifCond .eq 14, 3) := by decide +kernel
theorem dX11_readBits_54 : decode cX11_readBits 54 = .ok (.aload_n 0, 1) := by decide +kernel
theorem dX11_readBits_55 : decode cX11_readBits 55 = .ok (.invokevirtual 106, 3) := by decide +kernel
theorem dX11_readBits_58 : decode cX11_readBits 58 = .ok (.invokestatic 141, 3) := by decide +kernel
theorem dX11_readBits_61 : decode cX11_readBits 61 = .ok (.iconst (-1), 1) := by decide +kernel
theorem dX11_readBits_62 : decode cX11_readBits 62 = .ok (.if_icmp .eq 7, 3) := by decide +kernel
theorem dX11_readBits_65 : decode cX11_readBits 65 = .ok (.aload_n 0, 1) := by decide +kernel
theorem dX11_readBits_66 : decode cX11_readBits 66 = .ok (.invokevirtual 120, 3) := by decide +kernel
theorem dX11_readBits_69 : decode cX11_readBits 69 = .ok (.lload_n 1, 1) := by decide +kernel
theorem dX11_readBits_70 : decode cX11_readBits 70 = .ok (.lreturn, 1) := by decide +kernel
theorem dX11_readDigits_0 : decode cX11_readDigits 0 = .ok (.iconst 0, 1) := by decide +kernel
theorem dX11_readDigits_1 : decode cX11_readDigits 1 = .ok (.istore_n 1, 1) := by decide +kernel
theorem dX11_readDigits_2 : decode cX11_readDigits 2 = .ok (.iload_n 1, 1) := by decide +kernel
theorem dX11_readDigits_3 : decode cX11_readDigits 3 = .ok (.bipush 9, 2) := by decide +kernel
theorem dX11_readDigits_5 : decode cX11_readDigits 5 = .ok (.if_icmp .ge 51, 3) := by decide +kernel
theorem dX11_readDigits_8 : decode cX11_readDigits 8 = .ok (.aload_n 0, 1) := by decide +kernel
theorem dX11_readDigits_9 : decode cX11_readDigits 9 = .ok (.invokevirtual 106, 3) := by decide +kernel
theorem dX11_readDigits_12 : decode cX11_readDigits 12 = .ok (.invokestatic 113, 3) := by decide +kernel
theorem dX11_readDigits_15 : decode cX11_readDigits 15 = .ok (.ifCond .eq 41, 3) := by decide +kernel
theorem dX11_readDigits_18 : decode cX11_readDigits 18 = .ok (.aload_n 0, 1) := by decide +kernel
theorem dX11_readDigits_19 : decode cX11_readDigits 19 = .ok (.ldc2_w 90, 3) := by decide +kernel
theorem dX11_readDigits_22 : decode cX11_readDigits 22 = .ok (.aload_n 0, 1) := by decide +kernel
theorem dX11_readDigits_23 : decode cX11_readDigits 23 = .ok (.getfield 144, 3) := by decide +kernel
theorem dX11_readDigits_26 : decode cX11_readDigits 26 = .ok (.lmul, 1) := by decide +kernel
theorem dX11_readDigits_27 : decode cX11_readDigits 27 = .ok (.aload_n 0, 1) := by decide +kernel
theorem dX11_readDigits_28 : decode cX11_readDigits 28 = .ok (.invokevirtual 106, 3) := by decide +kernel
theorem dX11_readDigits_31 : decode cX11_readDigits 31 = .ok (.i2l, 1) := by decide +kernel
theorem dX11_readDigits_32 : decode cX11_readDigits 32 = .ok (.ladd, 1) := by decide +kernel
theorem dX11_readDigits_33 : decode cX11_readDigits 33 = .ok (.ldc2_w 148, 3) := by decide +kernel
theorem dX11_readDigits_36 : decode cX11_readDigits 36 = .ok (.lsub, 1) := by decide +kernel
theorem dX11_readDigits_37 : decode cX11_readDigits 37 = .ok (.putfield 144, 3) := by decide +kernel
theorem dX11_readDigits_40 : decode cX11_readDigits 40 = .ok (.aload_n 0, 1) := by decide +kernel
theorem dX11_readDigits_41 : decode cX11_readDigits 41 = .ok (.dup, 1) := by decide +kernel
theorem dX11_readDigits_42 : decode cX11_readDigits 42 = .ok (.getfield 103, 3) := by decide +kernel
theorem dX11_readDigits_45 : decode cX11_readDigits 45 = .ok (.iconst 1, 1) := by decide +kernel
theorem dX11_readDigits_46 : decode cX11_readDigits 46 = .ok (.iadd, 1) := by decide +kernel
theorem dX11_readDigits_47 : decode cX11_readDigits 47 = .ok (.putfield 103, 3) := by decide +kernel
theorem dX11_readDigits_50 : decode cX11_readDigits 50 = .ok (.iinc 1 1, 3) := by decide +kernel
theorem dX11_readDigits_53 : decode cX11_readDigits 53 = .ok (.goto (-51), 3) := by decide +kernel
theorem dX11_readDigits_56 : decode cX11_readDigits 56 = .ok (.iload_n 1, 1) := by decide +kernel
theorem dX11_readDigits_57 : decode cX11_readDigits 57 = .ok (.ifCond .eq 13, 3) := by decide +kernel
theorem dX11_readDigits_60 : decode cX11_readDigits 60 = .ok (.aload_n 0, 1) := by decide +kernel
theorem dX11_readDigits_61 : decode cX11_readDigits 61 = .ok (.invokevirtual 106, 3) := by decide +kernel
theorem dX11_readDigits_64 : decode cX11_readDigits 64 = .ok (.invokestatic 113, 3) := by decide +kernel
theorem dX11_readDigits_67 : decode cX11_readDigits 67 = .ok (.ifCond .eq 7, 3) := by decide +kernel
theorem dX11_readDigits_70 : decode cX11_readDigits 70 = .ok (.aload_n 0, 1) := by decide +kernel
theorem dX11_readDigits_71 : decode cX11_readDigits 71 = .ok (.invokevirtual 120, 3) := by decide +kernel
theorem dX11_readDigits_74 : decode cX11_readDigits 74 = .ok (.iload_n 1, 1) := by decide +kernel
theorem dX11_readDigits_75 : decode cX11_readDigits 75 = .ok (.ireturn, 1) := by decide +kernel
theorem dX11_readDecimal_0 : decode cX11_readDecimal 0 = .ok (.aload_n 0, 1) := by decide +kernel
theorem dX11_readDecimal_1 : decode cX11_readDecimal 1 = .ok (.lconst 0, 1) := by decide +kernel
theorem dX11_readDecimal_2 : decode cX11_readDecimal 2 = .ok (.putfield 144, 3) := by decide +kernel
theorem dX11_readDecimal_5 : decode cX11_readDecimal 5 = .ok (.aload_n 0, 1) := by decide +kernel
theorem dX11_readDecimal_6 : decode cX11_readDecimal 6 = .ok (.invokevirtual 150, 3) := by decide +kernel
theorem dX11_readDecimal_9 : decode cX11_readDecimal 9 = .ok (.pop, 1) := by decide +kernel
theorem dX11_readDecimal_10 : decode cX11_readDecimal 10 = .ok (.iconst 0, 1) := by decide +kernel
theorem dX11_readDecimal_11 : decode cX11_readDecimal 11 = .ok (.istore_n 2, 1) := by decide +kernel
theorem dX11_readDecimal_12 : decode cX11_readDecimal 12 = .ok (.aload_n 0, 1) := by decide +kernel
theorem dX11_readDecimal_13 : decode cX11_readDecimal 13 = .ok (.getfield 110, 3) := by decide +kernel
theorem dX11_readDecimal_16 : decode cX11_readDecimal 16 = .ok (.iconst (-1), 1) := by decide +kernel
theorem dX11_readDecimal_17 : decode cX11_readDecimal 17 = .ok (.if_icmp .ne 27, 3) := by decide +kernel
theorem dX11_readDecimal_20 : decode cX11_readDecimal 20 = .ok (.aload_n 0, 1) := by decide +kernel
theorem dX11_readDecimal_21 : decode cX11_readDecimal 21 = .ok (.invokevirtual 106, 3) := by decide +kernel
theorem dX11_readDecimal_24 : decode cX11_readDecimal 24 = .ok (.bipush 46, 2) := by decide +kernel
theorem dX11_readDecimal_26 : decode cX11_readDecimal 26 = .ok (.if_icmp .ne 18, 3) := by decide +kernel
theorem dX11_readDecimal_29 : decode cX11_readDecimal 29 = .ok (.aload_n 0, 1) := by decide +kernel
theorem dX11_readDecimal_30 : decode cX11_readDecimal 30 = .ok (.dup, 1) := by decide +kernel
theorem dX11_readDecimal_31 : decode cX11_readDecimal 31 = .ok (.getfield 103, 3) := by decide +kernel
theorem dX11_readDecimal_34 : decode cX11_readDecimal 34 = .ok (.iconst 1, 1) := by decide +kernel
theorem dX11_readDecimal_35 : decode cX11_readDecimal 35 = .ok (.iadd, 1) := by decide +kernel
theorem dX11_readDecimal_36 : decode cX11_readDecimal 36 = .ok (.putfield 103, 3) := by decide +kernel
theorem dX11_readDecimal_39 : decode cX11_readDecimal 39 = .ok (.aload_n 0, 1) := by decide +kernel
theorem dX11_readDecimal_40 : decode cX11_readDecimal 40 = .ok (.invokevirtual 150, 3) := by decide +kernel
theorem dX11_readDecimal_43 : decode cX11_readDecimal 43 = .ok (.istore_n 2, 1) := by decide +kernel
theorem dX11_readDecimal_44 : decode cX11_readDecimal 44 = .ok (.aload_n 0, 1) := by decide +kernel
theorem dX11_readDecimal_45 : decode cX11_readDecimal 45 = .ok (.getfield 144, 3) := by decide +kernel
theorem dX11_readDecimal_48 : decode cX11_readDecimal 48 = .ok (.l2d, 1) := by decide +kernel
theorem dX11_readDecimal_49 : decode cX11_readDecimal 49 = .ok (.aload_n 0, 1) := by decide +kernel
theorem dX11_readDecimal_50 : decode cX11_readDecimal 50 = .ok (.getfield 9, 3) := by decide +kernel
theorem dX11_readDecimal_53 : decode cX11_readDecimal 53 = .ok (.iload_n 2, 1) := by decide +kernel
theorem dX11_readDecimal_54 : decode cX11_readDecimal 54 = .ok (.daload, 1) := by decide +kernel
theorem dX11_readDecimal_55 : decode cX11_readDecimal 55 = .ok (.ddiv, 1) := by decide +kernel
theorem dX11_readDecimal_56 : decode cX11_readDecimal 56 = .ok (.dstore_n 3, 1) := by decide +kernel
theorem dX11_readDecimal_57 : decode cX11_readDecimal 57 = .ok (.iload_n 1, 1) := by decide +kernel
theorem dX11_readDecimal_58 : decode cX11_readDecimal 58 = .ok (.ifCond .eq 8, 3) := by decide +kernel
theorem dX11_readDecimal_61 : decode cX11_readDecimal 61 = .ok (.dload_n 3, 1) := by decide +kernel
theorem dX11_readDecimal_62 : decode cX11_readDecimal 62 = .ok (.dneg, 1) := by decide +kernel
theorem dX11_readDecimal_63 : decode cX11_readDecimal 63 = .ok (.goto 4, 3) := by decide +kernel
theorem dX11_readDecimal_66 : decode cX11_readDecimal 66 = .ok (.dload_n 3, 1) := by decide +kernel
theorem dX11_readDecimal_67 : decode cX11_readDecimal 67 = .ok (.invokestatic 153, 3) := by decide +kernel
theorem dX11_readDecimal_70 : decode cX11_readDecimal 70 = .ok (.lreturn, 1) := by decide +kernel
theorem dX11_readOne_0 : decode cX11_readOne 0 = .ok (.aload_n 0, 1) := by decide +kernel
theorem dX11_readOne_1 : decode cX11_readOne 1 = .ok (.invokevirtual 106, 3) := by decide +kernel
theorem dX11_readOne_4 : decode cX11_readOne 4 = .ok (.bipush 120, 2) := by decide +kernel
theorem dX11_readOne_6 : decode cX11_readOne 6 = .ok (.if_icmp .ne 18, 3) := by decide +kernel
theorem dX11_readOne_9 : decode cX11_readOne 9 = .ok (.aload_n 0, 1) := by decide +kernel
theorem dX11_readOne_10 : decode cX11_readOne 10 = .ok (.dup, 1) := by decide +kernel
theorem dX11_readOne_11 : decode cX11_readOne 11 = .ok (.getfield 103, 3) := by decide +kernel
theorem dX11_readOne_14 : decode cX11_readOne 14 = .ok (.iconst 1, 1) := by decide +kernel
theorem dX11_readOne_15 : decode cX11_readOne 15 = .ok (.iadd, 1) := by decide +kernel
theorem dX11_readOne_16 : decode cX11_readOne 16 = .ok (.putfield 103, 3) := by decide +kernel
theorem dX11_readOne_19 : decode cX11_readOne 19 = .ok (.aload_n 0, 1) := by decide +kernel
theorem dX11_readOne_20 : decode cX11_readOne 20 = .ok (.invokevirtual 159, 3) := by decide +kernel
theorem dX11_readOne_23 : decode cX11_readOne 23 = .ok (.lreturn, 1) := by decide +kernel
theorem dX11_readOne_24 : decode cX11_readOne 24 = .ok (.aload_n 0, 1) := by decide +kernel
theorem dX11_readOne_25 : decode cX11_readOne 25 = .ok (.invokevirtual 106, 3) := by decide +kernel
theorem dX11_readOne_28 : decode cX11_readOne 28 = .ok (.bipush 45, 2) := by decide +kernel
theorem dX11_readOne_30 : decode cX11_readOne 30 = .ok (.if_icmp .ne 7, 3) := by decide +kernel
theorem dX11_readOne_33 : decode cX11_readOne 33 = .ok (.iconst 1, 1) := by decide +kernel
theorem dX11_readOne_34 : decode cX11_readOne 34 = .ok (.goto 4, 3) := by decide +kernel
theorem dX11_readOne_37 : decode cX11_readOne 37 = .ok (.iconst 0, 1) := by decide +kernel
theorem dX11_readOne_38 : decode cX11_readOne 38 = .ok (.istore_n 1, 1) := by decide +kernel
theorem dX11_readOne_39 : decode cX11_readOne 39 = .ok (.aload_n 0, 1) := by decide +kernel
theorem dX11_readOne_40 : decode cX11_readOne 40 = .ok (.dup, 1) := by decide +kernel
theorem dX11_readOne_41 : decode cX11_readOne 41 = .ok (.getfield 103, 3) := by decide +kernel
theorem dX11_readOne_44 : decode cX11_readOne 44 = .ok (.iload_n 1, 1) := by decide +kernel
theorem dX11_readOne_45 : decode cX11_readOne 45 = .ok (.ifCond .eq 7, 3) := by decide +kernel
theorem dX11_readOne_48 : decode cX11_readOne 48 = .ok (.iconst 1, 1) := by decide +kernel
theorem dX11_readOne_49 : decode cX11_readOne 49 = .ok (.goto 4, 3) := by decide +kernel
theorem dX11_readOne_52 : decode cX11_readOne 52 = .ok (.iconst 0, 1) := by decide +kernel
theorem dX11_readOne_53 : decode cX11_readOne 53 = .ok (.iadd, 1) := by decide +kernel
theorem dX11_readOne_54 : decode cX11_readOne 54 = .ok (.putfield 103, 3) := by decide +kernel
theorem dX11_readOne_57 : decode cX11_readOne 57 = .ok (.aload_n 0, 1) := by decide +kernel
theorem dX11_readOne_58 : decode cX11_readOne 58 = .ok (.invokevirtual 106, 3) := by decide +kernel
theorem dX11_readOne_61 : decode cX11_readOne 61 = .ok (.bipush 105, 2) := by decide +kernel
theorem dX11_readOne_63 : decode cX11_readOne 63 = .ok (.if_icmp .eq 12, 3) := by decide +kernel
theorem dX11_readOne_66 : decode cX11_readOne 66 = .ok (.aload_n 0, 1) := by decide +kernel
theorem dX11_readOne_67 : decode cX11_readOne 67 = .ok (.invokevirtual 106, 3) := by decide +kernel
theorem dX11_readOne_70 : decode cX11_readOne 70 = .ok (.bipush 110, 2) := by decide +kernel
theorem dX11_readOne_72 : decode cX11_readOne 72 = .ok (.if_icmp .ne 46, 3) := by decide +kernel
theorem dX11_readOne_75 : decode cX11_readOne 75 = .ok (.aload_n 0, 1) := by decide +kernel
theorem dX11_readOne_76 : decode cX11_readOne 76 = .ok (.invokevirtual 106, 3) := by decide +kernel
theorem dX11_readOne_79 : decode cX11_readOne 79 = .ok (.bipush 105, 2) := by decide +kernel
theorem dX11_readOne_81 : decode cX11_readOne 81 = .ok (.if_icmp .ne 9, 3) := by decide +kernel
theorem dX11_readOne_84 : decode cX11_readOne 84 = .ok (.ldc2_w 163, 3) := by decide +kernel
theorem dX11_readOne_87 : decode cX11_readOne 87 = .ok (.goto 6, 3) := by decide +kernel
theorem dX11_readOne_90 : decode cX11_readOne 90 = .ok (.ldc2_w 165, 3) := by decide +kernel
theorem dX11_readOne_93 : decode cX11_readOne 93 = .ok (.lstore_n 2, 1) := by decide +kernel
theorem dX11_readOne_94 : decode cX11_readOne 94 = .ok (.aload_n 0, 1) := by decide +kernel
theorem dX11_readOne_95 : decode cX11_readOne 95 = .ok (.dup, 1) := by decide +kernel
theorem dX11_readOne_96 : decode cX11_readOne 96 = .ok (.getfield 103, 3) := by decide +kernel
theorem dX11_readOne_99 : decode cX11_readOne 99 = .ok (.iconst 1, 1) := by decide +kernel
theorem dX11_readOne_100 : decode cX11_readOne 100 = .ok (.iadd, 1) := by decide +kernel
theorem dX11_readOne_101 : decode cX11_readOne 101 = .ok (.putfield 103, 3) := by decide +kernel
theorem dX11_readOne_104 : decode cX11_readOne 104 = .ok (.iload_n 1, 1) := by decide +kernel
theorem dX11_readOne_105 : decode cX11_readOne 105 = .ok (.ifCond .eq 11, 3) := by decide +kernel
theorem dX11_readOne_108 : decode cX11_readOne 108 = .ok (.lload_n 2, 1) := by decide +kernel
theorem dX11_readOne_109 : decode cX11_readOne 109 = .ok (.ldc2_w 167, 3) := by decide +kernel
theorem dX11_readOne_112 : decode cX11_readOne 112 = .ok (.lor, 1) := by decide +kernel
theorem dX11_readOne_113 : decode cX11_readOne 113 = .ok (.goto 4, 3) := by decide +kernel
theorem dX11_readOne_116 : decode cX11_readOne 116 = .ok (.lload_n 2, 1) := by decide +kernel
theorem dX11_readOne_117 : decode cX11_readOne 117 = .ok (.lreturn, 1) := by decide +kernel
theorem dX11_readOne_118 : decode cX11_readOne 118 = .ok (.aload_n 0, 1) := by decide +kernel
theorem dX11_readOne_119 : decode cX11_readOne 119 = .ok (.iload_n 1, 1) := by decide +kernel
theorem dX11_readOne_120 : decode cX11_readOne 120 = .ok (.invokevirtual 169, 3) := by decide +kernel
theorem dX11_readOne_123 : decode cX11_readOne 123 = .ok (.lreturn, 1) := by decide +kernel
theorem dX11_begins_0 : decode cX11_begins 0 = .ok (.iload_n 0, 1) := by decide +kernel
theorem dX11_begins_1 : decode cX11_begins 1 = .ok (.bipush 120, 2) := by decide +kernel
theorem dX11_begins_3 : decode cX11_begins 3 = .ok (.if_icmp .eq 28, 3) := by decide +kernel
theorem dX11_begins_6 : decode cX11_begins 6 = .ok (.iload_n 0, 1) := by decide +kernel
theorem dX11_begins_7 : decode cX11_begins 7 = .ok (.bipush 45, 2) := by decide +kernel
theorem dX11_begins_9 : decode cX11_begins 9 = .ok (.if_icmp .eq 22, 3) := by decide +kernel
theorem dX11_begins_12 : decode cX11_begins 12 = .ok (.iload_n 0, 1) := by decide +kernel
theorem dX11_begins_13 : decode cX11_begins 13 = .ok (.bipush 105, 2) := by decide +kernel
theorem dX11_begins_15 : decode cX11_begins 15 = .ok (.if_icmp .eq 16, 3) := by decide +kernel
theorem dX11_begins_18 : decode cX11_begins 18 = .ok (.iload_n 0, 1) := by decide +kernel
theorem dX11_begins_19 : decode cX11_begins 19 = .ok (.bipush 110, 2) := by decide +kernel
theorem dX11_begins_21 : decode cX11_begins 21 = .ok (.if_icmp .eq 10, 3) := by decide +kernel
theorem dX11_begins_24 : decode cX11_begins 24 = .ok (.iload_n 0, 1) := by decide +kernel
theorem dX11_begins_25 : decode cX11_begins 25 = .ok (.invokestatic 113, 3) := by decide +kernel
theorem dX11_begins_28 : decode cX11_begins 28 = .ok (.ifCond .eq 7, 3) := by decide +kernel
theorem dX11_begins_31 : decode cX11_begins 31 = .ok (.iconst 1, 1) := by decide +kernel
theorem dX11_begins_32 : decode cX11_begins 32 = .ok (.goto 4, 3) := by decide +kernel
theorem dX11_begins_35 : decode cX11_begins 35 = .ok (.iconst 0, 1) := by decide +kernel
theorem dX11_begins_36 : decode cX11_begins 36 = .ok (.ireturn, 1) := by decide +kernel
theorem dX11_readColumn_0 : decode cX11_readColumn 0 = .ok (.aload_n 0, 1) := by decide +kernel
theorem dX11_readColumn_1 : decode cX11_readColumn 1 = .ok (.iconst 0, 1) := by decide +kernel
theorem dX11_readColumn_2 : decode cX11_readColumn 2 = .ok (.putfield 103, 3) := by decide +kernel
theorem dX11_readColumn_5 : decode cX11_readColumn 5 = .ok (.aload_n 0, 1) := by decide +kernel
theorem dX11_readColumn_6 : decode cX11_readColumn 6 = .ok (.iconst (-1), 1) := by decide +kernel
theorem dX11_readColumn_7 : decode cX11_readColumn 7 = .ok (.putfield 110, 3) := by decide +kernel
theorem dX11_readColumn_10 : decode cX11_readColumn 10 = .ok (.aload_n 0, 1) := by decide +kernel
theorem dX11_readColumn_11 : decode cX11_readColumn 11 = .ok (.iconst 0, 1) := by decide +kernel
theorem dX11_readColumn_12 : decode cX11_readColumn 12 = .ok (.putfield 173, 3) := by decide +kernel
theorem dX11_readColumn_15 : decode cX11_readColumn 15 = .ok (.iconst 0, 1) := by decide +kernel
theorem dX11_readColumn_16 : decode cX11_readColumn 16 = .ok (.istore_n 1, 1) := by decide +kernel
theorem dX11_readColumn_17 : decode cX11_readColumn 17 = .ok (.iconst 0, 1) := by decide +kernel
theorem dX11_readColumn_18 : decode cX11_readColumn 18 = .ok (.istore_n 2, 1) := by decide +kernel
theorem dX11_readColumn_19 : decode cX11_readColumn 19 = .ok (.iload_n 2, 1) := by decide +kernel
theorem dX11_readColumn_20 : decode cX11_readColumn 20 = .ok (.iconst 5, 1) := by decide +kernel
theorem dX11_readColumn_21 : decode cX11_readColumn 21 = .ok (.if_icmp .ge 19, 3) := by decide +kernel
theorem dX11_readColumn_24 : decode cX11_readColumn 24 = .ok (.aload_n 0, 1) := by decide +kernel
theorem dX11_readColumn_25 : decode cX11_readColumn 25 = .ok (.getfield 20, 3) := by decide +kernel
theorem dX11_readColumn_28 : decode cX11_readColumn 28 = .ok (.iload_n 2, 1) := by decide +kernel
theorem dX11_readColumn_29 : decode cX11_readColumn 29 = .ok (.iload_n 2, 1) := by decide +kernel
theorem dX11_readColumn_30 : decode cX11_readColumn 30 = .ok (.invokestatic 176, 3) := by decide +kernel
theorem dX11_readColumn_33 : decode cX11_readColumn 33 = .ok (.iastore, 1) := by decide +kernel
theorem dX11_readColumn_34 : decode cX11_readColumn 34 = .ok (.iinc 2 1, 3) := by decide +kernel
theorem dX11_readColumn_37 : decode cX11_readColumn 37 = .ok (.goto (-18), 3) := by decide +kernel
theorem dX11_readColumn_40 : decode cX11_readColumn 40 = .ok (.iconst 1, 1) := by decide +kernel
theorem dX11_readColumn_41 : decode cX11_readColumn 41 = .ok (.istore_n 2, 1) := by decide +kernel
theorem dX11_readColumn_42 : decode cX11_readColumn 42 = .ok (.iload_n 2, 1) := by decide +kernel
theorem dX11_readColumn_43 : decode cX11_readColumn 43 = .ok (.ifCond .eq 135, 3) := by decide +kernel
theorem dX11_readColumn_46 : decode cX11_readColumn 46 = .ok (.aload_n 0, 1) := by decide +kernel
theorem dX11_readColumn_47 : decode cX11_readColumn 47 = .ok (.getfield 110, 3) := by decide +kernel
theorem dX11_readColumn_50 : decode cX11_readColumn 50 = .ok (.iconst (-1), 1) := by decide +kernel
theorem dX11_readColumn_51 : decode cX11_readColumn 51 = .ok (.if_icmp .ne 127, 3) := by decide +kernel
theorem dX11_readColumn_54 : decode cX11_readColumn 54 = .ok (.aload_n 0, 1) := by decide +kernel
theorem dX11_readColumn_55 : decode cX11_readColumn 55 = .ok (.invokevirtual 117, 3) := by decide +kernel
theorem dX11_readColumn_58 : decode cX11_readColumn 58 = .ok (.istore_n 3, 1) := by decide +kernel
theorem dX11_readColumn_59 : decode cX11_readColumn 59 = .ok (.iload_n 3, 1) := by decide +kernel
theorem dX11_readColumn_60 : decode cX11_readColumn 60 = .ok (.bipush 115, 2) := by decide +kernel
theorem dX11_readColumn_62 : decode cX11_readColumn 62 = .ok (.if_icmp .ne 26, 3) := by decide +kernel
theorem dX11_readColumn_65 : decode cX11_readColumn 65 = .ok (.iload_n 1, 1) := by decide +kernel
theorem dX11_readColumn_66 : decode cX11_readColumn 66 = .ok (.ifCond .ne 22, 3) := by decide +kernel
theorem dX11_readColumn_69 : decode cX11_readColumn 69 = .ok (.iconst 1, 1) := by decide +kernel
theorem dX11_readColumn_70 : decode cX11_readColumn 70 = .ok (.istore_n 1, 1) := by decide +kernel
theorem dX11_readColumn_71 : decode cX11_readColumn 71 = .ok (.aload_n 0, 1) := by decide +kernel
theorem dX11_readColumn_72 : decode cX11_readColumn 72 = .ok (.dup, 1) := by decide +kernel
theorem dX11_readColumn_73 : decode cX11_readColumn 73 = .ok (.getfield 103, 3) := by decide +kernel
theorem dX11_readColumn_76 : decode cX11_readColumn 76 = .ok (.iconst 1, 1) := by decide +kernel
theorem dX11_readColumn_77 : decode cX11_readColumn 77 = .ok (.iadd, 1) := by decide +kernel
theorem dX11_readColumn_78 : decode cX11_readColumn 78 = .ok (.putfield 103, 3) := by decide +kernel
theorem dX11_readColumn_81 : decode cX11_readColumn 81 = .ok (.aload_n 0, 1) := by decide +kernel
theorem dX11_readColumn_82 : decode cX11_readColumn 82 = .ok (.invokevirtual 179, 3) := by decide +kernel
theorem dX11_readColumn_85 : decode cX11_readColumn 85 = .ok (.goto 49, 3) := by decide +kernel
theorem dX11_readColumn_88 : decode cX11_readColumn 88 = .ok (.iload_n 3, 1) := by decide +kernel
theorem dX11_readColumn_89 : decode cX11_readColumn 89 = .ok (.invokestatic 182, 3) := by decide +kernel
theorem dX11_readColumn_92 : decode cX11_readColumn 92 = .ok (.ifCond .eq 38, 3) := by decide +kernel
theorem dX11_readColumn_95 : decode cX11_readColumn 95 = .ok (.aload_n 0, 1) := by decide +kernel
theorem dX11_readColumn_96 : decode cX11_readColumn 96 = .ok (.getfield 173, 3) := by decide +kernel
theorem dX11_readColumn_99 : decode cX11_readColumn 99 = .ok (.bipush 40, 2) := by decide +kernel
theorem dX11_readColumn_101 : decode cX11_readColumn 101 = .ok (.if_icmp .ge 29, 3) := by decide +kernel
theorem dX11_readColumn_104 : decode cX11_readColumn 104 = .ok (.aload_n 0, 1) := by decide +kernel
theorem dX11_readColumn_105 : decode cX11_readColumn 105 = .ok (.getfield 23, 3) := by decide +kernel
theorem dX11_readColumn_108 : decode cX11_readColumn 108 = .ok (.aload_n 0, 1) := by decide +kernel
theorem dX11_readColumn_109 : decode cX11_readColumn 109 = .ok (.getfield 173, 3) := by decide +kernel
theorem dX11_readColumn_112 : decode cX11_readColumn 112 = .ok (.aload_n 0, 1) := by decide +kernel
theorem dX11_readColumn_113 : decode cX11_readColumn 113 = .ok (.invokevirtual 185, 3) := by decide +kernel
theorem dX11_readColumn_116 : decode cX11_readColumn 116 = .ok (.lastore, 1) := by decide +kernel
theorem dX11_readColumn_117 : decode cX11_readColumn 117 = .ok (.aload_n 0, 1) := by decide +kernel
theorem dX11_readColumn_118 : decode cX11_readColumn 118 = .ok (.dup, 1) := by decide +kernel
theorem dX11_readColumn_119 : decode cX11_readColumn 119 = .ok (.getfield 173, 3) := by decide +kernel
theorem dX11_readColumn_122 : decode cX11_readColumn 122 = .ok (.iconst 1, 1) := by decide +kernel
theorem dX11_readColumn_123 : decode cX11_readColumn 123 = .ok (.iadd, 1) := by decide +kernel
theorem dX11_readColumn_124 : decode cX11_readColumn 124 = .ok (.putfield 173, 3) := by decide +kernel
theorem dX11_readColumn_127 : decode cX11_readColumn 127 = .ok (.goto 7, 3) := by decide +kernel
theorem dX11_readColumn_130 : decode cX11_readColumn 130 = .ok (.aload_n 0, 1) := by decide +kernel
theorem dX11_readColumn_131 : decode cX11_readColumn 131 = .ok (.invokevirtual 120, 3) := by decide +kernel
theorem dX11_readColumn_134 : decode cX11_readColumn 134 = .ok (.aload_n 0, 1) := by decide +kernel
theorem dX11_readColumn_135 : decode cX11_readColumn 135 = .ok (.getfield 110, 3) := by decide +kernel
theorem dX11_readColumn_138 : decode cX11_readColumn 138 = .ok (.iconst (-1), 1) := by decide +kernel
theorem dX11_readColumn_139 : decode cX11_readColumn 139 = .ok (.if_icmp .ne 16, 3) := by decide +kernel
theorem dX11_readColumn_142 : decode cX11_readColumn 142 = .ok (.aload_n 0, 1) := by decide +kernel
theorem dX11_readColumn_143 : decode cX11_readColumn 143 = .ok (.invokevirtual 117, 3) := by decide +kernel
theorem dX11_readColumn_146 : decode cX11_readColumn 146 = .ok (.bipush 59, 2) := by decide +kernel
theorem dX11_readColumn_148 : decode cX11_readColumn 148 = .ok (.if_icmp .ne 7, 3) := by decide +kernel
theorem dX11_readColumn_151 : decode cX11_readColumn 151 = .ok (.iconst 1, 1) := by decide +kernel
theorem dX11_readColumn_152 : decode cX11_readColumn 152 = .ok (.goto 4, 3) := by decide +kernel
theorem dX11_readColumn_155 : decode cX11_readColumn 155 = .ok (.iconst 0, 1) := by decide +kernel
theorem dX11_readColumn_156 : decode cX11_readColumn 156 = .ok (.istore_n 2, 1) := by decide +kernel
theorem dX11_readColumn_157 : decode cX11_readColumn 157 = .ok (.aload_n 0, 1) := by decide +kernel
theorem dX11_readColumn_158 : decode cX11_readColumn 158 = .ok (.dup, 1) := by decide +kernel
theorem dX11_readColumn_159 : decode cX11_readColumn 159 = .ok (.getfield 103, 3) := by decide +kernel
theorem dX11_readColumn_162 : decode cX11_readColumn 162 = .ok (.iload_n 2, 1) := by decide +kernel
theorem dX11_readColumn_163 : decode cX11_readColumn 163 = .ok (.ifCond .eq 7, 3) := by decide +kernel
theorem dX11_readColumn_166 : decode cX11_readColumn 166 = .ok (.iconst 1, 1) := by decide +kernel
theorem dX11_readColumn_167 : decode cX11_readColumn 167 = .ok (.goto 4, 3) := by decide +kernel
theorem dX11_readColumn_170 : decode cX11_readColumn 170 = .ok (.iconst 0, 1) := by decide +kernel
theorem dX11_readColumn_171 : decode cX11_readColumn 171 = .ok (.iadd, 1) := by decide +kernel
theorem dX11_readColumn_172 : decode cX11_readColumn 172 = .ok (.putfield 103, 3) := by decide +kernel
theorem dX11_readColumn_175 : decode cX11_readColumn 175 = .ok (.goto (-133), 3) := by decide +kernel
theorem dX11_readColumn_178 : decode cX11_readColumn 178 = .ok (.aload_n 0, 1) := by decide +kernel
theorem dX11_readColumn_179 : decode cX11_readColumn 179 = .ok (.getfield 110, 3) := by decide +kernel
theorem dX11_readColumn_182 : decode cX11_readColumn 182 = .ok (.iconst (-1), 1) := by decide +kernel
theorem dX11_readColumn_183 : decode cX11_readColumn 183 = .ok (.if_icmp .ne 15, 3) := by decide +kernel
theorem dX11_readColumn_186 : decode cX11_readColumn 186 = .ok (.aload_n 0, 1) := by decide +kernel
theorem dX11_readColumn_187 : decode cX11_readColumn 187 = .ok (.invokevirtual 117, 3) := by decide +kernel
theorem dX11_readColumn_190 : decode cX11_readColumn 190 = .ok (.iconst (-1), 1) := by decide +kernel
theorem dX11_readColumn_191 : decode cX11_readColumn 191 = .ok (.if_icmp .eq 7, 3) := by decide +kernel
theorem dX11_readColumn_194 : decode cX11_readColumn 194 = .ok (.aload_n 0, 1) := by decide +kernel
theorem dX11_readColumn_195 : decode cX11_readColumn 195 = .ok (.invokevirtual 120, 3) := by decide +kernel
theorem dX11_readColumn_198 : decode cX11_readColumn 198 = .ok (.aload_n 0, 1) := by decide +kernel
theorem dX11_readColumn_199 : decode cX11_readColumn 199 = .ok (.getfield 110, 3) := by decide +kernel
theorem dX11_readColumn_202 : decode cX11_readColumn 202 = .ok (.ireturn, 1) := by decide +kernel
theorem dX11_widthOf_0 : decode cX11_widthOf 0 = .ok (.iconst 0, 1) := by decide +kernel
theorem dX11_widthOf_1 : decode cX11_widthOf 1 = .ok (.istore_n 2, 1) := by decide +kernel
theorem dX11_widthOf_2 : decode cX11_widthOf 2 = .ok (.iload_n 2, 1) := by decide +kernel
theorem dX11_widthOf_3 : decode cX11_widthOf 3 = .ok (.bipush 64, 2) := by decide +kernel
theorem dX11_widthOf_5 : decode cX11_widthOf 5 = .ok (.if_icmp .ge 17, 3) := by decide +kernel
theorem dX11_widthOf_8 : decode cX11_widthOf 8 = .ok (.lload_n 0, 1) := by decide +kernel
theorem dX11_widthOf_9 : decode cX11_widthOf 9 = .ok (.iload_n 2, 1) := by decide +kernel
theorem dX11_widthOf_10 : decode cX11_widthOf 10 = .ok (.lushr, 1) := by decide +kernel
theorem dX11_widthOf_11 : decode cX11_widthOf 11 = .ok (.lconst 0, 1) := by decide +kernel
theorem dX11_widthOf_12 : decode cX11_widthOf 12 = .ok (.lcmp, 1) := by decide +kernel
theorem dX11_widthOf_13 : decode cX11_widthOf 13 = .ok (.ifCond .eq 9, 3) := by decide +kernel
theorem dX11_widthOf_16 : decode cX11_widthOf 16 = .ok (.iinc 2 1, 3) := by decide +kernel
theorem dX11_widthOf_19 : decode cX11_widthOf 19 = .ok (.goto (-17), 3) := by decide +kernel
theorem dX11_widthOf_22 : decode cX11_widthOf 22 = .ok (.iload_n 2, 1) := by decide +kernel
theorem dX11_widthOf_23 : decode cX11_widthOf 23 = .ok (.ireturn, 1) := by decide +kernel
theorem dX11_byteIn_0 : decode cX11_byteIn 0 = .ok (.aload_n 0, 1) := by decide +kernel
theorem dX11_byteIn_1 : decode cX11_byteIn 1 = .ok (.getfield 110, 3) := by decide +kernel
theorem dX11_byteIn_4 : decode cX11_byteIn 4 = .ok (.iconst (-1), 1) := by decide +kernel
theorem dX11_byteIn_5 : decode cX11_byteIn 5 = .ok (.if_icmp .eq 5, 3) := by decide +kernel
theorem dX11_byteIn_8 : decode cX11_byteIn 8 = .ok (.iload_n 1, 1) := by decide +kernel
theorem dX11_byteIn_9 : decode cX11_byteIn 9 = .ok (.ireturn, 1) := by decide +kernel
theorem dX11_byteIn_10 : decode cX11_byteIn 10 = .ok (.aload_n 0, 1) := by decide +kernel
theorem dX11_byteIn_11 : decode cX11_byteIn 11 = .ok (.invokevirtual 106, 3) := by decide +kernel
theorem dX11_byteIn_14 : decode cX11_byteIn 14 = .ok (.istore_n 3, 1) := by decide +kernel
theorem dX11_byteIn_15 : decode cX11_byteIn 15 = .ok (.iload_n 3, 1) := by decide +kernel
theorem dX11_byteIn_16 : decode cX11_byteIn 16 = .ok (.iload_n 1, 1) := by decide +kernel
theorem dX11_byteIn_17 : decode cX11_byteIn 17 = .ok (.iload_n 2, 1) := by decide +kernel
theorem dX11_byteIn_18 : decode cX11_byteIn 18 = .ok (.invokestatic 99, 3) := by decide +kernel
theorem dX11_byteIn_21 : decode cX11_byteIn 21 = .ok (.ifCond .ne 9, 3) := by decide +kernel
theorem dX11_byteIn_24 : decode cX11_byteIn 24 = .ok (.aload_n 0, 1) := by decide +kernel
theorem dX11_byteIn_25 : decode cX11_byteIn 25 = .ok (.invokevirtual 120, 3) := by decide +kernel
theorem dX11_byteIn_28 : decode cX11_byteIn 28 = .ok (.iload_n 1, 1) := by decide +kernel
theorem dX11_byteIn_29 : decode cX11_byteIn 29 = .ok (.ireturn, 1) := by decide +kernel
theorem dX11_byteIn_30 : decode cX11_byteIn 30 = .ok (.aload_n 0, 1) := by decide +kernel
theorem dX11_byteIn_31 : decode cX11_byteIn 31 = .ok (.bipush 31, 2) := by decide +kernel
theorem dX11_byteIn_33 : decode cX11_byteIn 33 = .ok (.aload_n 0, 1) := by decide +kernel
theorem dX11_byteIn_34 : decode cX11_byteIn 34 = .ok (.getfield 188, 3) := by decide +kernel
theorem dX11_byteIn_37 : decode cX11_byteIn 37 = .ok (.imul, 1) := by decide +kernel
theorem dX11_byteIn_38 : decode cX11_byteIn 38 = .ok (.iload_n 3, 1) := by decide +kernel
theorem dX11_byteIn_39 : decode cX11_byteIn 39 = .ok (.iadd, 1) := by decide +kernel
theorem dX11_byteIn_40 : decode cX11_byteIn 40 = .ok (.sipush 251, 3) := by decide +kernel
theorem dX11_byteIn_43 : decode cX11_byteIn 43 = .ok (.irem, 1) := by decide +kernel
theorem dX11_byteIn_44 : decode cX11_byteIn 44 = .ok (.putfield 188, 3) := by decide +kernel
theorem dX11_byteIn_47 : decode cX11_byteIn 47 = .ok (.aload_n 0, 1) := by decide +kernel
theorem dX11_byteIn_48 : decode cX11_byteIn 48 = .ok (.dup, 1) := by decide +kernel
theorem dX11_byteIn_49 : decode cX11_byteIn 49 = .ok (.getfield 103, 3) := by decide +kernel
theorem dX11_byteIn_52 : decode cX11_byteIn 52 = .ok (.iconst 1, 1) := by decide +kernel
theorem dX11_byteIn_53 : decode cX11_byteIn 53 = .ok (.iadd, 1) := by decide +kernel
theorem dX11_byteIn_54 : decode cX11_byteIn 54 = .ok (.putfield 103, 3) := by decide +kernel
theorem dX11_byteIn_57 : decode cX11_byteIn 57 = .ok (.iload_n 3, 1) := by decide +kernel
theorem dX11_byteIn_58 : decode cX11_byteIn 58 = .ok (.ireturn, 1) := by decide +kernel
theorem dX11_eight_0 : decode cX11_eight 0 = .ok (.lconst 0, 1) := by decide +kernel
theorem dX11_eight_1 : decode cX11_eight 1 = .ok (.lstore_n 1, 1) := by decide +kernel
theorem dX11_eight_2 : decode cX11_eight 2 = .ok (.iconst 0, 1) := by decide +kernel
theorem dX11_eight_3 : decode cX11_eight 3 = .ok (.istore_n 3, 1) := by decide +kernel
theorem dX11_eight_4 : decode cX11_eight 4 = .ok (.iload_n 3, 1) := by decide +kernel
theorem dX11_eight_5 : decode cX11_eight 5 = .ok (.bipush 8, 2) := by decide +kernel
theorem dX11_eight_7 : decode cX11_eight 7 = .ok (.if_icmp .ge 24, 3) := by decide +kernel
theorem dX11_eight_10 : decode cX11_eight 10 = .ok (.lload_n 1, 1) := by decide +kernel
theorem dX11_eight_11 : decode cX11_eight 11 = .ok (.bipush 8, 2) := by decide +kernel
theorem dX11_eight_13 : decode cX11_eight 13 = .ok (.lshl, 1) := by decide +kernel
theorem dX11_eight_14 : decode cX11_eight 14 = .ok (.aload_n 0, 1) := by decide +kernel
theorem dX11_eight_15 : decode cX11_eight 15 = .ok (.iconst 0, 1) := by decide +kernel
theorem dX11_eight_16 : decode cX11_eight 16 = .ok (.sipush 255, 3) := by decide +kernel
theorem dX11_eight_19 : decode cX11_eight 19 = .ok (.invokevirtual 191, 3) := by decide +kernel
theorem dX11_eight_22 : decode cX11_eight 22 = .ok (.i2l, 1) := by decide +kernel
theorem dX11_eight_23 : decode cX11_eight 23 = .ok (.lor, 1) := by decide +kernel
theorem dX11_eight_24 : decode cX11_eight 24 = .ok (.lstore_n 1, 1) := by decide +kernel
theorem dX11_eight_25 : decode cX11_eight 25 = .ok (.iinc 3 1, 3) := by decide +kernel
theorem dX11_eight_28 : decode cX11_eight 28 = .ok (.goto (-24), 3) := by decide +kernel
theorem dX11_eight_31 : decode cX11_eight 31 = .ok (.lload_n 1, 1) := by decide +kernel
theorem dX11_eight_32 : decode cX11_eight 32 = .ok (.lreturn, 1) := by decide +kernel
theorem dX11_two_0 : decode cX11_two 0 = .ok (.iconst 1, 1) := by decide +kernel
theorem dX11_two_1 : decode cX11_two 1 = .ok (.iload_n 1, 1) := by decide +kernel
theorem dX11_two_2 : decode cX11_two 2 = .ok (.ishl, 1) := by decide +kernel
theorem dX11_two_3 : decode cX11_two 3 = .ok (.iconst 1, 1) := by decide +kernel
theorem dX11_two_4 : decode cX11_two 4 = .ok (.isub, 1) := by decide +kernel
theorem dX11_two_5 : decode cX11_two 5 = .ok (.istore_n 2, 1) := by decide +kernel
theorem dX11_two_6 : decode cX11_two 6 = .ok (.aload_n 0, 1) := by decide +kernel
theorem dX11_two_7 : decode cX11_two 7 = .ok (.iconst 0, 1) := by decide +kernel
theorem dX11_two_8 : decode cX11_two 8 = .ok (.iload_n 2, 1) := by decide +kernel
theorem dX11_two_9 : decode cX11_two 9 = .ok (.bipush 8, 2) := by decide +kernel
theorem dX11_two_11 : decode cX11_two 11 = .ok (.ishr, 1) := by decide +kernel
theorem dX11_two_12 : decode cX11_two 12 = .ok (.invokevirtual 191, 3) := by decide +kernel
theorem dX11_two_15 : decode cX11_two 15 = .ok (.istore_n 3, 1) := by decide +kernel
theorem dX11_two_16 : decode cX11_two 16 = .ok (.iload_n 3, 1) := by decide +kernel
theorem dX11_two_17 : decode cX11_two 17 = .ok (.bipush 8, 2) := by decide +kernel
theorem dX11_two_19 : decode cX11_two 19 = .ok (.ishl, 1) := by decide +kernel
theorem dX11_two_20 : decode cX11_two 20 = .ok (.aload_n 0, 1) := by decide +kernel
theorem dX11_two_21 : decode cX11_two 21 = .ok (.iconst 0, 1) := by decide +kernel
theorem dX11_two_22 : decode cX11_two 22 = .ok (.iload_n 1, 1) := by decide +kernel
theorem dX11_two_23 : decode cX11_two 23 = .ok (.bipush 8, 2) := by decide +kernel
theorem dX11_two_25 : decode cX11_two 25 = .ok (.if_icmp .ge 7, 3) := by decide +kernel
theorem dX11_two_28 : decode cX11_two 28 = .ok (.iload_n 2, 1) := by decide +kernel
theorem dX11_two_29 : decode cX11_two 29 = .ok (.goto 6, 3) := by decide +kernel
theorem dX11_two_32 : decode cX11_two 32 = .ok (.sipush 255, 3) := by decide +kernel
theorem dX11_two_35 : decode cX11_two 35 = .ok (.invokevirtual 191, 3) := by decide +kernel
theorem dX11_two_38 : decode cX11_two 38 = .ok (.ior, 1) := by decide +kernel
theorem dX11_two_39 : decode cX11_two 39 = .ok (.ireturn, 1) := by decide +kernel
theorem dX11_takeBits_0 : decode cX11_takeBits 0 = .ok (.lconst 0, 1) := by decide +kernel
theorem dX11_takeBits_1 : decode cX11_takeBits 1 = .ok (.lstore_n 2, 1) := by decide +kernel
theorem dX11_takeBits_2 : decode cX11_takeBits 2 = .ok (.iconst 0, 1) := by decide +kernel
theorem dX11_takeBits_3 : decode cX11_takeBits 3 = .ok (.istore 4, 2) := by decide +kernel
theorem dX11_takeBits_5 : decode cX11_takeBits 5 = .ok (.iload 4, 2) := by decide +kernel
theorem dX11_takeBits_7 : decode cX11_takeBits 7 = .ok (.iload_n 1, 1) := by decide +kernel
theorem dX11_takeBits_8 : decode cX11_takeBits 8 = .ok (.if_icmp .ge 103, 3) := by decide +kernel
theorem dX11_takeBits_11 : decode cX11_takeBits 11 = .ok (.aload_n 0, 1) := by decide +kernel
theorem dX11_takeBits_12 : decode cX11_takeBits 12 = .ok (.getfield 110, 3) := by decide +kernel
theorem dX11_takeBits_15 : decode cX11_takeBits 15 = .ok (.iconst (-1), 1) := by decide +kernel
theorem dX11_takeBits_16 : decode cX11_takeBits 16 = .ok (.if_icmp .ne 95, 3) := by decide +kernel
theorem dX11_takeBits_19 : decode cX11_takeBits 19 = .ok (.aload_n 0, 1) := by decide +kernel
theorem dX11_takeBits_20 : decode cX11_takeBits 20 = .ok (.getfield 194, 3) := by decide +kernel
theorem dX11_takeBits_23 : decode cX11_takeBits 23 = .ok (.bipush 8, 2) := by decide +kernel
theorem dX11_takeBits_25 : decode cX11_takeBits 25 = .ok (.irem, 1) := by decide +kernel
theorem dX11_takeBits_26 : decode cX11_takeBits 26 = .ok (.ifCond .ne 33, 3) := by decide +kernel
theorem dX11_takeBits_29 : decode cX11_takeBits 29 = .ok (.aload_n 0, 1) := by decide +kernel
theorem dX11_takeBits_30 : decode cX11_takeBits 30 = .ok (.getfield 103, 3) := by decide +kernel
theorem dX11_takeBits_33 : decode cX11_takeBits 33 = .ok (.aload_n 0, 1) := by decide +kernel
theorem dX11_takeBits_34 : decode cX11_takeBits 34 = .ok (.getfield 194, 3) := by decide +kernel
theorem dX11_takeBits_37 : decode cX11_takeBits 37 = .ok (.bipush 8, 2) := by decide +kernel
theorem dX11_takeBits_39 : decode cX11_takeBits 39 = .ok (.idiv, 1) := by decide +kernel
theorem dX11_takeBits_40 : decode cX11_takeBits 40 = .ok (.iadd, 1) := by decide +kernel
theorem dX11_takeBits_41 : decode cX11_takeBits 41 = .ok (.aload_n 0, 1) := by decide +kernel
theorem dX11_takeBits_42 : decode cX11_takeBits 42 = .ok (.getfield 96, 3) := by decide +kernel
theorem dX11_takeBits_45 : decode cX11_takeBits 45 = .ok (.if_icmp .lt 14, 3) := by decide +kernel
theorem dX11_takeBits_48 : decode cX11_takeBits 48 = .ok (.aload_n 0, 1) := by decide +kernel
theorem dX11_takeBits_49 : decode cX11_takeBits 49 = .ok (.aload_n 0, 1) := by decide +kernel
theorem dX11_takeBits_50 : decode cX11_takeBits 50 = .ok (.getfield 96, 3) := by decide +kernel
theorem dX11_takeBits_53 : decode cX11_takeBits 53 = .ok (.putfield 110, 3) := by decide +kernel
theorem dX11_takeBits_56 : decode cX11_takeBits 56 = .ok (.goto 49, 3) := by decide +kernel
theorem dX11_takeBits_59 : decode cX11_takeBits 59 = .ok (.lload_n 2, 1) := by decide +kernel
theorem dX11_takeBits_60 : decode cX11_takeBits 60 = .ok (.iconst 1, 1) := by decide +kernel
theorem dX11_takeBits_61 : decode cX11_takeBits 61 = .ok (.lshl, 1) := by decide +kernel
theorem dX11_takeBits_62 : decode cX11_takeBits 62 = .ok (.aload_n 0, 1) := by decide +kernel
theorem dX11_takeBits_63 : decode cX11_takeBits 63 = .ok (.getfield 16, 3) := by decide +kernel
theorem dX11_takeBits_66 : decode cX11_takeBits 66 = .ok (.aload_n 0, 1) := by decide +kernel
theorem dX11_takeBits_67 : decode cX11_takeBits 67 = .ok (.getfield 103, 3) := by decide +kernel
theorem dX11_takeBits_70 : decode cX11_takeBits 70 = .ok (.aload_n 0, 1) := by decide +kernel
theorem dX11_takeBits_71 : decode cX11_takeBits 71 = .ok (.getfield 194, 3) := by decide +kernel
theorem dX11_takeBits_74 : decode cX11_takeBits 74 = .ok (.bipush 8, 2) := by decide +kernel
theorem dX11_takeBits_76 : decode cX11_takeBits 76 = .ok (.idiv, 1) := by decide +kernel
theorem dX11_takeBits_77 : decode cX11_takeBits 77 = .ok (.iadd, 1) := by decide +kernel
theorem dX11_takeBits_78 : decode cX11_takeBits 78 = .ok (.iaload, 1) := by decide +kernel
theorem dX11_takeBits_79 : decode cX11_takeBits 79 = .ok (.bipush 7, 2) := by decide +kernel
theorem dX11_takeBits_81 : decode cX11_takeBits 81 = .ok (.aload_n 0, 1) := by decide +kernel
theorem dX11_takeBits_82 : decode cX11_takeBits 82 = .ok (.getfield 194, 3) := by decide +kernel
theorem dX11_takeBits_85 : decode cX11_takeBits 85 = .ok (.bipush 8, 2) := by decide +kernel
theorem dX11_takeBits_87 : decode cX11_takeBits 87 = .ok (.irem, 1) := by decide +kernel
theorem dX11_takeBits_88 : decode cX11_takeBits 88 = .ok (.isub, 1) := by decide +kernel
theorem dX11_takeBits_89 : decode cX11_takeBits 89 = .ok (.ishr, 1) := by decide +kernel
theorem dX11_takeBits_90 : decode cX11_takeBits 90 = .ok (.iconst 1, 1) := by decide +kernel
theorem dX11_takeBits_91 : decode cX11_takeBits 91 = .ok (.iand, 1) := by decide +kernel
theorem dX11_takeBits_92 : decode cX11_takeBits 92 = .ok (.i2l, 1) := by decide +kernel
theorem dX11_takeBits_93 : decode cX11_takeBits 93 = .ok (.lor, 1) := by decide +kernel
theorem dX11_takeBits_94 : decode cX11_takeBits 94 = .ok (.lstore_n 2, 1) := by decide +kernel
theorem dX11_takeBits_95 : decode cX11_takeBits 95 = .ok (.aload_n 0, 1) := by decide +kernel
theorem dX11_takeBits_96 : decode cX11_takeBits 96 = .ok (.dup, 1) := by decide +kernel
theorem dX11_takeBits_97 : decode cX11_takeBits 97 = .ok (.getfield 194, 3) := by decide +kernel
theorem dX11_takeBits_100 : decode cX11_takeBits 100 = .ok (.iconst 1, 1) := by decide +kernel
theorem dX11_takeBits_101 : decode cX11_takeBits 101 = .ok (.iadd, 1) := by decide +kernel
theorem dX11_takeBits_102 : decode cX11_takeBits 102 = .ok (.putfield 194, 3) := by decide +kernel
theorem dX11_takeBits_105 : decode cX11_takeBits 105 = .ok (.iinc 4 1, 3) := by decide +kernel
theorem dX11_takeBits_108 : decode cX11_takeBits 108 = .ok (.goto (-103), 3) := by decide +kernel
theorem dX11_takeBits_111 : decode cX11_takeBits 111 = .ok (.lload_n 2, 1) := by decide +kernel
theorem dX11_takeBits_112 : decode cX11_takeBits 112 = .ok (.lreturn, 1) := by decide +kernel
theorem dX11_endBits_0 : decode cX11_endBits 0 = .ok (.aload_n 0, 1) := by decide +kernel
theorem dX11_endBits_1 : decode cX11_endBits 1 = .ok (.getfield 110, 3) := by decide +kernel
theorem dX11_endBits_4 : decode cX11_endBits 4 = .ok (.iconst (-1), 1) := by decide +kernel
theorem dX11_endBits_5 : decode cX11_endBits 5 = .ok (.if_icmp .ne 76, 3) := by decide +kernel
theorem dX11_endBits_8 : decode cX11_endBits 8 = .ok (.aload_n 0, 1) := by decide +kernel
theorem dX11_endBits_9 : decode cX11_endBits 9 = .ok (.getfield 194, 3) := by decide +kernel
theorem dX11_endBits_12 : decode cX11_endBits 12 = .ok (.bipush 8, 2) := by decide +kernel
theorem dX11_endBits_14 : decode cX11_endBits 14 = .ok (.irem, 1) := by decide +kernel
theorem dX11_endBits_15 : decode cX11_endBits 15 = .ok (.ifCond .eq 66, 3) := by decide +kernel
theorem dX11_endBits_18 : decode cX11_endBits 18 = .ok (.aload_n 0, 1) := by decide +kernel
theorem dX11_endBits_19 : decode cX11_endBits 19 = .ok (.getfield 16, 3) := by decide +kernel
theorem dX11_endBits_22 : decode cX11_endBits 22 = .ok (.aload_n 0, 1) := by decide +kernel
theorem dX11_endBits_23 : decode cX11_endBits 23 = .ok (.getfield 103, 3) := by decide +kernel
theorem dX11_endBits_26 : decode cX11_endBits 26 = .ok (.aload_n 0, 1) := by decide +kernel
theorem dX11_endBits_27 : decode cX11_endBits 27 = .ok (.getfield 194, 3) := by decide +kernel
theorem dX11_endBits_30 : decode cX11_endBits 30 = .ok (.bipush 8, 2) := by decide +kernel
theorem dX11_endBits_32 : decode cX11_endBits 32 = .ok (.idiv, 1) := by decide +kernel
theorem dX11_endBits_33 : decode cX11_endBits 33 = .ok (.iadd, 1) := by decide +kernel
theorem dX11_endBits_34 : decode cX11_endBits 34 = .ok (.iaload, 1) := by decide +kernel
theorem dX11_endBits_35 : decode cX11_endBits 35 = .ok (.bipush 7, 2) := by decide +kernel
theorem dX11_endBits_37 : decode cX11_endBits 37 = .ok (.aload_n 0, 1) := by decide +kernel
theorem dX11_endBits_38 : decode cX11_endBits 38 = .ok (.getfield 194, 3) := by decide +kernel
theorem dX11_endBits_41 : decode cX11_endBits 41 = .ok (.bipush 8, 2) := by decide +kernel
theorem dX11_endBits_43 : decode cX11_endBits 43 = .ok (.irem, 1) := by decide +kernel
theorem dX11_endBits_44 : decode cX11_endBits 44 = .ok (.isub, 1) := by decide +kernel
theorem dX11_endBits_45 : decode cX11_endBits 45 = .ok (.ishr, 1) := by decide +kernel
theorem dX11_endBits_46 : decode cX11_endBits 46 = .ok (.iconst 1, 1) := by decide +kernel
theorem dX11_endBits_47 : decode cX11_endBits 47 = .ok (.iand, 1) := by decide +kernel
theorem dX11_endBits_48 : decode cX11_endBits 48 = .ok (.iconst 1, 1) := by decide +kernel
theorem dX11_endBits_49 : decode cX11_endBits 49 = .ok (.if_icmp .ne 19, 3) := by decide +kernel
theorem dX11_endBits_52 : decode cX11_endBits 52 = .ok (.aload_n 0, 1) := by decide +kernel
theorem dX11_endBits_53 : decode cX11_endBits 53 = .ok (.aload_n 0, 1) := by decide +kernel
theorem dX11_endBits_54 : decode cX11_endBits 54 = .ok (.getfield 103, 3) := by decide +kernel
theorem dX11_endBits_57 : decode cX11_endBits 57 = .ok (.aload_n 0, 1) := by decide +kernel
theorem dX11_endBits_58 : decode cX11_endBits 58 = .ok (.getfield 194, 3) := by decide +kernel
theorem dX11_endBits_61 : decode cX11_endBits 61 = .ok (.bipush 8, 2) := by decide +kernel
theorem dX11_endBits_63 : decode cX11_endBits 63 = .ok (.idiv, 1) := by decide +kernel
theorem dX11_endBits_64 : decode cX11_endBits 64 = .ok (.iadd, 1) := by decide +kernel
theorem dX11_endBits_65 : decode cX11_endBits 65 = .ok (.putfield 110, 3) := by decide +kernel
theorem dX11_endBits_68 : decode cX11_endBits 68 = .ok (.aload_n 0, 1) := by decide +kernel
theorem dX11_endBits_69 : decode cX11_endBits 69 = .ok (.dup, 1) := by decide +kernel
theorem dX11_endBits_70 : decode cX11_endBits 70 = .ok (.getfield 194, 3) := by decide +kernel
theorem dX11_endBits_73 : decode cX11_endBits 73 = .ok (.iconst 1, 1) := by decide +kernel
theorem dX11_endBits_74 : decode cX11_endBits 74 = .ok (.iadd, 1) := by decide +kernel
theorem dX11_endBits_75 : decode cX11_endBits 75 = .ok (.putfield 194, 3) := by decide +kernel
theorem dX11_endBits_78 : decode cX11_endBits 78 = .ok (.goto (-78), 3) := by decide +kernel
theorem dX11_endBits_81 : decode cX11_endBits 81 = .ok (.aload_n 0, 1) := by decide +kernel
theorem dX11_endBits_82 : decode cX11_endBits 82 = .ok (.getfield 194, 3) := by decide +kernel
theorem dX11_endBits_85 : decode cX11_endBits 85 = .ok (.bipush 8, 2) := by decide +kernel
theorem dX11_endBits_87 : decode cX11_endBits 87 = .ok (.idiv, 1) := by decide +kernel
theorem dX11_endBits_88 : decode cX11_endBits 88 = .ok (.istore_n 1, 1) := by decide +kernel
theorem dX11_endBits_89 : decode cX11_endBits 89 = .ok (.iload_n 1, 1) := by decide +kernel
theorem dX11_endBits_90 : decode cX11_endBits 90 = .ok (.ifCond .le 26, 3) := by decide +kernel
theorem dX11_endBits_93 : decode cX11_endBits 93 = .ok (.aload_n 0, 1) := by decide +kernel
theorem dX11_endBits_94 : decode cX11_endBits 94 = .ok (.getfield 110, 3) := by decide +kernel
theorem dX11_endBits_97 : decode cX11_endBits 97 = .ok (.iconst (-1), 1) := by decide +kernel
theorem dX11_endBits_98 : decode cX11_endBits 98 = .ok (.if_icmp .ne 18, 3) := by decide +kernel
theorem dX11_endBits_101 : decode cX11_endBits 101 = .ok (.aload_n 0, 1) := by decide +kernel
theorem dX11_endBits_102 : decode cX11_endBits 102 = .ok (.iconst 0, 1) := by decide +kernel
theorem dX11_endBits_103 : decode cX11_endBits 103 = .ok (.sipush 255, 3) := by decide +kernel
theorem dX11_endBits_106 : decode cX11_endBits 106 = .ok (.invokevirtual 191, 3) := by decide +kernel
theorem dX11_endBits_109 : decode cX11_endBits 109 = .ok (.pop, 1) := by decide +kernel
theorem dX11_endBits_110 : decode cX11_endBits 110 = .ok (.iinc 1 (-1), 3) := by decide +kernel
theorem dX11_endBits_113 : decode cX11_endBits 113 = .ok (.goto (-24), 3) := by decide +kernel
theorem dX11_endBits_116 : decode cX11_endBits 116 = .ok (.return_, 1) := by decide +kernel
theorem dX11_readRaw_0 : decode cX11_readRaw 0 = .ok (.iconst 0, 1) := by decide +kernel
theorem dX11_readRaw_1 : decode cX11_readRaw 1 = .ok (.istore_n 1, 1) := by decide +kernel
theorem dX11_readRaw_2 : decode cX11_readRaw 2 = .ok (.iload_n 1, 1) := by decide +kernel
theorem dX11_readRaw_3 : decode cX11_readRaw 3 = .ok (.aload_n 0, 1) := by decide +kernel
theorem dX11_readRaw_4 : decode cX11_readRaw 4 = .ok (.getfield 197, 3) := by decide +kernel
theorem dX11_readRaw_7 : decode cX11_readRaw 7 = .ok (.if_icmp .ge 19, 3) := by decide +kernel
theorem dX11_readRaw_10 : decode cX11_readRaw 10 = .ok (.aload_n 0, 1) := by decide +kernel
theorem dX11_readRaw_11 : decode cX11_readRaw 11 = .ok (.getfield 27, 3) := by decide +kernel
theorem dX11_readRaw_14 : decode cX11_readRaw 14 = .ok (.iload_n 1, 1) := by decide +kernel
theorem dX11_readRaw_15 : decode cX11_readRaw 15 = .ok (.aload_n 0, 1) := by decide +kernel
theorem dX11_readRaw_16 : decode cX11_readRaw 16 = .ok (.invokevirtual 200, 3) := by decide +kernel
theorem dX11_readRaw_19 : decode cX11_readRaw 19 = .ok (.lastore, 1) := by decide +kernel
theorem dX11_readRaw_20 : decode cX11_readRaw 20 = .ok (.iinc 1 1, 3) := by decide +kernel
theorem dX11_readRaw_23 : decode cX11_readRaw 23 = .ok (.goto (-21), 3) := by decide +kernel
theorem dX11_readRaw_26 : decode cX11_readRaw 26 = .ok (.return_, 1) := by decide +kernel
theorem dX11_unguised_0 : decode cX11_unguised 0 = .ok (.lload_n 1, 1) := by decide +kernel
theorem dX11_unguised_1 : decode cX11_unguised 1 = .ok (.l2d, 1) := by decide +kernel
theorem dX11_unguised_2 : decode cX11_unguised 2 = .ok (.aload_n 0, 1) := by decide +kernel
theorem dX11_unguised_3 : decode cX11_unguised 3 = .ok (.getfield 9, 3) := by decide +kernel
theorem dX11_unguised_6 : decode cX11_unguised 6 = .ok (.iload 4, 2) := by decide +kernel
theorem dX11_unguised_8 : decode cX11_unguised 8 = .ok (.daload, 1) := by decide +kernel
theorem dX11_unguised_9 : decode cX11_unguised 9 = .ok (.dmul, 1) := by decide +kernel
theorem dX11_unguised_10 : decode cX11_unguised 10 = .ok (.dstore 5, 2) := by decide +kernel
theorem dX11_unguised_12 : decode cX11_unguised 12 = .ok (.dload 5, 2) := by decide +kernel
theorem dX11_unguised_14 : decode cX11_unguised 14 = .ok (.aload_n 0, 1) := by decide +kernel
theorem dX11_unguised_15 : decode cX11_unguised 15 = .ok (.getfield 13, 3) := by decide +kernel
theorem dX11_unguised_18 : decode cX11_unguised 18 = .ok (.iload_n 3, 1) := by decide +kernel
theorem dX11_unguised_19 : decode cX11_unguised 19 = .ok (.daload, 1) := by decide +kernel
theorem dX11_unguised_20 : decode cX11_unguised 20 = .ok (.dmul, 1) := by decide +kernel
theorem dX11_unguised_21 : decode cX11_unguised 21 = .ok (.dreturn, 1) := by decide +kernel
theorem dX11_readDecimals_0 : decode cX11_readDecimals 0 = .ok (.aload_n 0, 1) := by decide +kernel
theorem dX11_readDecimals_1 : decode cX11_readDecimals 1 = .ok (.iconst 0, 1) := by decide +kernel
theorem dX11_readDecimals_2 : decode cX11_readDecimals 2 = .ok (.bipush 14, 2) := by decide +kernel
theorem dX11_readDecimals_4 : decode cX11_readDecimals 4 = .ok (.invokevirtual 191, 3) := by decide +kernel
theorem dX11_readDecimals_7 : decode cX11_readDecimals 7 = .ok (.istore_n 1, 1) := by decide +kernel
theorem dX11_readDecimals_8 : decode cX11_readDecimals 8 = .ok (.aload_n 0, 1) := by decide +kernel
theorem dX11_readDecimals_9 : decode cX11_readDecimals 9 = .ok (.iconst 0, 1) := by decide +kernel
theorem dX11_readDecimals_10 : decode cX11_readDecimals 10 = .ok (.iload_n 1, 1) := by decide +kernel
theorem dX11_readDecimals_11 : decode cX11_readDecimals 11 = .ok (.invokevirtual 191, 3) := by decide +kernel
theorem dX11_readDecimals_14 : decode cX11_readDecimals 14 = .ok (.istore_n 2, 1) := by decide +kernel
theorem dX11_readDecimals_15 : decode cX11_readDecimals 15 = .ok (.aload_n 0, 1) := by decide +kernel
theorem dX11_readDecimals_16 : decode cX11_readDecimals 16 = .ok (.iconst 0, 1) := by decide +kernel
theorem dX11_readDecimals_17 : decode cX11_readDecimals 17 = .ok (.aload_n 0, 1) := by decide +kernel
theorem dX11_readDecimals_18 : decode cX11_readDecimals 18 = .ok (.getfield 197, 3) := by decide +kernel
theorem dX11_readDecimals_21 : decode cX11_readDecimals 21 = .ok (.invokevirtual 191, 3) := by decide +kernel
theorem dX11_readDecimals_24 : decode cX11_readDecimals 24 = .ok (.istore_n 3, 1) := by decide +kernel
theorem dX11_readDecimals_25 : decode cX11_readDecimals 25 = .ok (.aload_n 0, 1) := by decide +kernel
theorem dX11_readDecimals_26 : decode cX11_readDecimals 26 = .ok (.invokevirtual 200, 3) := by decide +kernel
theorem dX11_readDecimals_29 : decode cX11_readDecimals 29 = .ok (.lstore 4, 2) := by decide +kernel
theorem dX11_readDecimals_31 : decode cX11_readDecimals 31 = .ok (.aload_n 0, 1) := by decide +kernel
theorem dX11_readDecimals_32 : decode cX11_readDecimals 32 = .ok (.iconst 0, 1) := by decide +kernel
theorem dX11_readDecimals_33 : decode cX11_readDecimals 33 = .ok (.bipush 53, 2) := by decide +kernel
theorem dX11_readDecimals_35 : decode cX11_readDecimals 35 = .ok (.invokevirtual 191, 3) := by decide +kernel
theorem dX11_readDecimals_38 : decode cX11_readDecimals 38 = .ok (.istore 6, 2) := by decide +kernel
theorem dX11_readDecimals_40 : decode cX11_readDecimals 40 = .ok (.aload_n 0, 1) := by decide +kernel
theorem dX11_readDecimals_41 : decode cX11_readDecimals 41 = .ok (.iconst 0, 1) := by decide +kernel
theorem dX11_readDecimals_42 : decode cX11_readDecimals 42 = .ok (.putfield 194, 3) := by decide +kernel
theorem dX11_readDecimals_45 : decode cX11_readDecimals 45 = .ok (.iconst 0, 1) := by decide +kernel
theorem dX11_readDecimals_46 : decode cX11_readDecimals 46 = .ok (.istore 7, 2) := by decide +kernel
theorem dX11_readDecimals_48 : decode cX11_readDecimals 48 = .ok (.iload 7, 2) := by decide +kernel
theorem dX11_readDecimals_50 : decode cX11_readDecimals 50 = .ok (.aload_n 0, 1) := by decide +kernel
theorem dX11_readDecimals_51 : decode cX11_readDecimals 51 = .ok (.getfield 197, 3) := by decide +kernel
theorem dX11_readDecimals_54 : decode cX11_readDecimals 54 = .ok (.if_icmp .ge 34, 3) := by decide +kernel
theorem dX11_readDecimals_57 : decode cX11_readDecimals 57 = .ok (.aload_n 0, 1) := by decide +kernel
theorem dX11_readDecimals_58 : decode cX11_readDecimals 58 = .ok (.getfield 27, 3) := by decide +kernel
theorem dX11_readDecimals_61 : decode cX11_readDecimals 61 = .ok (.iload 7, 2) := by decide +kernel
theorem dX11_readDecimals_63 : decode cX11_readDecimals 63 = .ok (.aload_n 0, 1) := by decide +kernel
theorem dX11_readDecimals_64 : decode cX11_readDecimals 64 = .ok (.lload 4, 2) := by decide +kernel
theorem dX11_readDecimals_66 : decode cX11_readDecimals 66 = .ok (.aload_n 0, 1) := by decide +kernel
theorem dX11_readDecimals_67 : decode cX11_readDecimals 67 = .ok (.iload 6, 2) := by decide +kernel
theorem dX11_readDecimals_69 : decode cX11_readDecimals 69 = .ok (.invokevirtual 203, 3) := by decide +kernel
theorem dX11_readDecimals_72 : decode cX11_readDecimals 72 = .ok (.ladd, 1) := by decide +kernel
theorem dX11_readDecimals_73 : decode cX11_readDecimals 73 = .ok (.iload_n 1, 1) := by decide +kernel
theorem dX11_readDecimals_74 : decode cX11_readDecimals 74 = .ok (.iload_n 2, 1) := by decide +kernel
theorem dX11_readDecimals_75 : decode cX11_readDecimals 75 = .ok (.invokevirtual 207, 3) := by decide +kernel
theorem dX11_readDecimals_78 : decode cX11_readDecimals 78 = .ok (.invokestatic 153, 3) := by decide +kernel
theorem dX11_readDecimals_81 : decode cX11_readDecimals 81 = .ok (.lastore, 1) := by decide +kernel
theorem dX11_readDecimals_82 : decode cX11_readDecimals 82 = .ok (.iinc 7 1, 3) := by decide +kernel
theorem dX11_readDecimals_85 : decode cX11_readDecimals 85 = .ok (.goto (-37), 3) := by decide +kernel
theorem dX11_readDecimals_88 : decode cX11_readDecimals 88 = .ok (.aload_n 0, 1) := by decide +kernel
theorem dX11_readDecimals_89 : decode cX11_readDecimals 89 = .ok (.invokevirtual 211, 3) := by decide +kernel
theorem dX11_readDecimals_92 : decode cX11_readDecimals 92 = .ok (.iconst 0, 1) := by decide +kernel
theorem dX11_readDecimals_93 : decode cX11_readDecimals 93 = .ok (.istore 7, 2) := by decide +kernel
theorem dX11_readDecimals_95 : decode cX11_readDecimals 95 = .ok (.iconst 0, 1) := by decide +kernel
theorem dX11_readDecimals_96 : decode cX11_readDecimals 96 = .ok (.istore 8, 2) := by decide +kernel
theorem dX11_readDecimals_98 : decode cX11_readDecimals 98 = .ok (.iload 8, 2) := by decide +kernel
theorem dX11_readDecimals_100 : decode cX11_readDecimals 100 = .ok (.iload_n 3, 1) := by decide +kernel
theorem dX11_readDecimals_101 : decode cX11_readDecimals 101 = .ok (.if_icmp .ge 43, 3) := by decide +kernel
theorem dX11_readDecimals_104 : decode cX11_readDecimals 104 = .ok (.aload_n 0, 1) := by decide +kernel
theorem dX11_readDecimals_105 : decode cX11_readDecimals 105 = .ok (.iload 7, 2) := by decide +kernel
theorem dX11_readDecimals_107 : decode cX11_readDecimals 107 = .ok (.aload_n 0, 1) := by decide +kernel
theorem dX11_readDecimals_108 : decode cX11_readDecimals 108 = .ok (.getfield 197, 3) := by decide +kernel
theorem dX11_readDecimals_111 : decode cX11_readDecimals 111 = .ok (.iload_n 3, 1) := by decide +kernel
theorem dX11_readDecimals_112 : decode cX11_readDecimals 112 = .ok (.isub, 1) := by decide +kernel
theorem dX11_readDecimals_113 : decode cX11_readDecimals 113 = .ok (.iload 8, 2) := by decide +kernel
theorem dX11_readDecimals_115 : decode cX11_readDecimals 115 = .ok (.iadd, 1) := by decide +kernel
theorem dX11_readDecimals_116 : decode cX11_readDecimals 116 = .ok (.invokevirtual 191, 3) := by decide +kernel
theorem dX11_readDecimals_119 : decode cX11_readDecimals 119 = .ok (.istore 9, 2) := by decide +kernel
theorem dX11_readDecimals_121 : decode cX11_readDecimals 121 = .ok (.aload_n 0, 1) := by decide +kernel
theorem dX11_readDecimals_122 : decode cX11_readDecimals 122 = .ok (.getfield 27, 3) := by decide +kernel
theorem dX11_readDecimals_125 : decode cX11_readDecimals 125 = .ok (.iload 9, 2) := by decide +kernel
theorem dX11_readDecimals_127 : decode cX11_readDecimals 127 = .ok (.aload_n 0, 1) := by decide +kernel
theorem dX11_readDecimals_128 : decode cX11_readDecimals 128 = .ok (.invokevirtual 200, 3) := by decide +kernel
theorem dX11_readDecimals_131 : decode cX11_readDecimals 131 = .ok (.lastore, 1) := by decide +kernel
theorem dX11_readDecimals_132 : decode cX11_readDecimals 132 = .ok (.iload 9, 2) := by decide +kernel
theorem dX11_readDecimals_134 : decode cX11_readDecimals 134 = .ok (.iconst 1, 1) := by decide +kernel
theorem dX11_readDecimals_135 : decode cX11_readDecimals 135 = .ok (.iadd, 1) := by decide +kernel
theorem dX11_readDecimals_136 : decode cX11_readDecimals 136 = .ok (.istore 7, 2) := by decide +kernel
theorem dX11_readDecimals_138 : decode cX11_readDecimals 138 = .ok (.iinc 8 1, 3) := by decide +kernel
theorem dX11_readDecimals_141 : decode cX11_readDecimals 141 = .ok (.goto (-43), 3) := by decide +kernel
theorem dX11_readDecimals_144 : decode cX11_readDecimals 144 = .ok (.return_, 1) := by decide +kernel
theorem dX11_readSplit_0 : decode cX11_readSplit 0 = .ok (.aload_n 0, 1) := by decide +kernel
theorem dX11_readSplit_1 : decode cX11_readSplit 1 = .ok (.iconst 4, 1) := by decide +kernel
theorem dX11_readSplit_2 : decode cX11_readSplit 2 = .ok (.bipush 16, 2) := by decide +kernel
theorem dX11_readSplit_4 : decode cX11_readSplit 4 = .ok (.invokevirtual 191, 3) := by decide +kernel
theorem dX11_readSplit_7 : decode cX11_readSplit 7 = .ok (.istore_n 1, 1) := by decide +kernel
theorem dX11_readSplit_8 : decode cX11_readSplit 8 = .ok (.aload_n 0, 1) := by decide +kernel
theorem dX11_readSplit_9 : decode cX11_readSplit 9 = .ok (.iconst 1, 1) := by decide +kernel
theorem dX11_readSplit_10 : decode cX11_readSplit 10 = .ok (.bipush 8, 2) := by decide +kernel
theorem dX11_readSplit_12 : decode cX11_readSplit 12 = .ok (.invokevirtual 191, 3) := by decide +kernel
