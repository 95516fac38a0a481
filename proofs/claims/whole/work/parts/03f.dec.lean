theorem dX11_readSplit_15 : decode cX11_readSplit 15 = .ok (.istore_n 2, 1) := by decide +kernel
theorem dX11_readSplit_16 : decode cX11_readSplit 16 = .ok (.iconst 0, 1) := by decide +kernel
theorem dX11_readSplit_17 : decode cX11_readSplit 17 = .ok (.istore_n 3, 1) := by decide +kernel
theorem dX11_readSplit_18 : decode cX11_readSplit 18 = .ok (.iload_n 3, 1) := by decide +kernel
theorem dX11_readSplit_19 : decode cX11_readSplit 19 = .ok (.iload_n 2, 1) := by decide +kernel
theorem dX11_readSplit_20 : decode cX11_readSplit 20 = .ok (.if_icmp .ge 20, 3) := by decide +kernel
theorem dX11_readSplit_23 : decode cX11_readSplit 23 = .ok (.aload_n 0, 1) := by decide +kernel
theorem dX11_readSplit_24 : decode cX11_readSplit 24 = .ok (.getfield 30, 3) := by decide +kernel
theorem dX11_readSplit_27 : decode cX11_readSplit 27 = .ok (.iload_n 3, 1) := by decide +kernel
theorem dX11_readSplit_28 : decode cX11_readSplit 28 = .ok (.aload_n 0, 1) := by decide +kernel
theorem dX11_readSplit_29 : decode cX11_readSplit 29 = .ok (.iload_n 1, 1) := by decide +kernel
theorem dX11_readSplit_30 : decode cX11_readSplit 30 = .ok (.invokevirtual 214, 3) := by decide +kernel
theorem dX11_readSplit_33 : decode cX11_readSplit 33 = .ok (.iastore, 1) := by decide +kernel
theorem dX11_readSplit_34 : decode cX11_readSplit 34 = .ok (.iinc 3 1, 3) := by decide +kernel
theorem dX11_readSplit_37 : decode cX11_readSplit 37 = .ok (.goto (-19), 3) := by decide +kernel
theorem dX11_readSplit_40 : decode cX11_readSplit 40 = .ok (.aload_n 0, 1) := by decide +kernel
theorem dX11_readSplit_41 : decode cX11_readSplit 41 = .ok (.iconst 0, 1) := by decide +kernel
theorem dX11_readSplit_42 : decode cX11_readSplit 42 = .ok (.aload_n 0, 1) := by decide +kernel
theorem dX11_readSplit_43 : decode cX11_readSplit 43 = .ok (.getfield 197, 3) := by decide +kernel
theorem dX11_readSplit_46 : decode cX11_readSplit 46 = .ok (.invokevirtual 191, 3) := by decide +kernel
theorem dX11_readSplit_49 : decode cX11_readSplit 49 = .ok (.istore_n 3, 1) := by decide +kernel
theorem dX11_readSplit_50 : decode cX11_readSplit 50 = .ok (.iload_n 2, 1) := by decide +kernel
theorem dX11_readSplit_51 : decode cX11_readSplit 51 = .ok (.iconst 1, 1) := by decide +kernel
theorem dX11_readSplit_52 : decode cX11_readSplit 52 = .ok (.isub, 1) := by decide +kernel
theorem dX11_readSplit_53 : decode cX11_readSplit 53 = .ok (.i2l, 1) := by decide +kernel
theorem dX11_readSplit_54 : decode cX11_readSplit 54 = .ok (.invokestatic 217, 3) := by decide +kernel
theorem dX11_readSplit_57 : decode cX11_readSplit 57 = .ok (.istore 4, 2) := by decide +kernel
theorem dX11_readSplit_59 : decode cX11_readSplit 59 = .ok (.aload_n 0, 1) := by decide +kernel
theorem dX11_readSplit_60 : decode cX11_readSplit 60 = .ok (.iconst 0, 1) := by decide +kernel
theorem dX11_readSplit_61 : decode cX11_readSplit 61 = .ok (.putfield 194, 3) := by decide +kernel
theorem dX11_readSplit_64 : decode cX11_readSplit 64 = .ok (.iconst 0, 1) := by decide +kernel
theorem dX11_readSplit_65 : decode cX11_readSplit 65 = .ok (.istore 5, 2) := by decide +kernel
theorem dX11_readSplit_67 : decode cX11_readSplit 67 = .ok (.iload 5, 2) := by decide +kernel
theorem dX11_readSplit_69 : decode cX11_readSplit 69 = .ok (.aload_n 0, 1) := by decide +kernel
theorem dX11_readSplit_70 : decode cX11_readSplit 70 = .ok (.getfield 197, 3) := by decide +kernel
theorem dX11_readSplit_73 : decode cX11_readSplit 73 = .ok (.if_icmp .ge 103, 3) := by decide +kernel
theorem dX11_readSplit_76 : decode cX11_readSplit 76 = .ok (.aload_n 0, 1) := by decide +kernel
theorem dX11_readSplit_77 : decode cX11_readSplit 77 = .ok (.getfield 110, 3) := by decide +kernel
theorem dX11_readSplit_80 : decode cX11_readSplit 80 = .ok (.iconst (-1), 1) := by decide +kernel
theorem dX11_readSplit_81 : decode cX11_readSplit 81 = .ok (.if_icmp .ne 95, 3) := by decide +kernel
theorem dX11_readSplit_84 : decode cX11_readSplit 84 = .ok (.aload_n 0, 1) := by decide +kernel
theorem dX11_readSplit_85 : decode cX11_readSplit 85 = .ok (.iload 4, 2) := by decide +kernel
theorem dX11_readSplit_87 : decode cX11_readSplit 87 = .ok (.invokevirtual 203, 3) := by decide +kernel
theorem dX11_readSplit_90 : decode cX11_readSplit 90 = .ok (.l2i, 1) := by decide +kernel
theorem dX11_readSplit_91 : decode cX11_readSplit 91 = .ok (.istore 6, 2) := by decide +kernel
theorem dX11_readSplit_93 : decode cX11_readSplit 93 = .ok (.aload_n 0, 1) := by decide +kernel
theorem dX11_readSplit_94 : decode cX11_readSplit 94 = .ok (.getfield 110, 3) := by decide +kernel
theorem dX11_readSplit_97 : decode cX11_readSplit 97 = .ok (.iconst (-1), 1) := by decide +kernel
theorem dX11_readSplit_98 : decode cX11_readSplit 98 = .ok (.if_icmp .ne 27, 3) := by decide +kernel
theorem dX11_readSplit_101 : decode cX11_readSplit 101 = .ok (.iload 6, 2) := by decide +kernel
theorem dX11_readSplit_103 : decode cX11_readSplit 103 = .ok (.iload_n 2, 1) := by decide +kernel
theorem dX11_readSplit_104 : decode cX11_readSplit 104 = .ok (.if_icmp .lt 21, 3) := by decide +kernel
theorem dX11_readSplit_107 : decode cX11_readSplit 107 = .ok (.aload_n 0, 1) := by decide +kernel
theorem dX11_readSplit_108 : decode cX11_readSplit 108 = .ok (.aload_n 0, 1) := by decide +kernel
theorem dX11_readSplit_109 : decode cX11_readSplit 109 = .ok (.getfield 103, 3) := by decide +kernel
theorem dX11_readSplit_112 : decode cX11_readSplit 112 = .ok (.aload_n 0, 1) := by decide +kernel
theorem dX11_readSplit_113 : decode cX11_readSplit 113 = .ok (.getfield 194, 3) := by decide +kernel
theorem dX11_readSplit_116 : decode cX11_readSplit 116 = .ok (.iconst 1, 1) := by decide +kernel
theorem dX11_readSplit_117 : decode cX11_readSplit 117 = .ok (.isub, 1) := by decide +kernel
theorem dX11_readSplit_118 : decode cX11_readSplit 118 = .ok (.bipush 8, 2) := by decide +kernel
theorem dX11_readSplit_120 : decode cX11_readSplit 120 = .ok (.idiv, 1) := by decide +kernel
theorem dX11_readSplit_121 : decode cX11_readSplit 121 = .ok (.iadd, 1) := by decide +kernel
theorem dX11_readSplit_122 : decode cX11_readSplit 122 = .ok (.putfield 110, 3) := by decide +kernel
theorem dX11_readSplit_125 : decode cX11_readSplit 125 = .ok (.aload_n 0, 1) := by decide +kernel
theorem dX11_readSplit_126 : decode cX11_readSplit 126 = .ok (.bipush 64, 2) := by decide +kernel
theorem dX11_readSplit_128 : decode cX11_readSplit 128 = .ok (.iload_n 1, 1) := by decide +kernel
theorem dX11_readSplit_129 : decode cX11_readSplit 129 = .ok (.isub, 1) := by decide +kernel
theorem dX11_readSplit_130 : decode cX11_readSplit 130 = .ok (.invokevirtual 203, 3) := by decide +kernel
theorem dX11_readSplit_133 : decode cX11_readSplit 133 = .ok (.lstore 7, 2) := by decide +kernel
theorem dX11_readSplit_135 : decode cX11_readSplit 135 = .ok (.aload_n 0, 1) := by decide +kernel
theorem dX11_readSplit_136 : decode cX11_readSplit 136 = .ok (.getfield 27, 3) := by decide +kernel
theorem dX11_readSplit_139 : decode cX11_readSplit 139 = .ok (.iload 5, 2) := by decide +kernel
theorem dX11_readSplit_141 : decode cX11_readSplit 141 = .ok (.aload_n 0, 1) := by decide +kernel
theorem dX11_readSplit_142 : decode cX11_readSplit 142 = .ok (.getfield 110, 3) := by decide +kernel
theorem dX11_readSplit_145 : decode cX11_readSplit 145 = .ok (.iconst (-1), 1) := by decide +kernel
theorem dX11_readSplit_146 : decode cX11_readSplit 146 = .ok (.if_icmp .ne 22, 3) := by decide +kernel
theorem dX11_readSplit_149 : decode cX11_readSplit 149 = .ok (.aload_n 0, 1) := by decide +kernel
theorem dX11_readSplit_150 : decode cX11_readSplit 150 = .ok (.getfield 30, 3) := by decide +kernel
theorem dX11_readSplit_153 : decode cX11_readSplit 153 = .ok (.iload 6, 2) := by decide +kernel
theorem dX11_readSplit_155 : decode cX11_readSplit 155 = .ok (.iaload, 1) := by decide +kernel
theorem dX11_readSplit_156 : decode cX11_readSplit 156 = .ok (.i2l, 1) := by decide +kernel
theorem dX11_readSplit_157 : decode cX11_readSplit 157 = .ok (.bipush 64, 2) := by decide +kernel
theorem dX11_readSplit_159 : decode cX11_readSplit 159 = .ok (.iload_n 1, 1) := by decide +kernel
theorem dX11_readSplit_160 : decode cX11_readSplit 160 = .ok (.isub, 1) := by decide +kernel
theorem dX11_readSplit_161 : decode cX11_readSplit 161 = .ok (.lshl, 1) := by decide +kernel
theorem dX11_readSplit_162 : decode cX11_readSplit 162 = .ok (.lload 7, 2) := by decide +kernel
theorem dX11_readSplit_164 : decode cX11_readSplit 164 = .ok (.lor, 1) := by decide +kernel
theorem dX11_readSplit_165 : decode cX11_readSplit 165 = .ok (.goto 4, 3) := by decide +kernel
theorem dX11_readSplit_168 : decode cX11_readSplit 168 = .ok (.lconst 0, 1) := by decide +kernel
theorem dX11_readSplit_169 : decode cX11_readSplit 169 = .ok (.lastore, 1) := by decide +kernel
theorem dX11_readSplit_170 : decode cX11_readSplit 170 = .ok (.iinc 5 1, 3) := by decide +kernel
theorem dX11_readSplit_173 : decode cX11_readSplit 173 = .ok (.goto (-106), 3) := by decide +kernel
theorem dX11_readSplit_176 : decode cX11_readSplit 176 = .ok (.aload_n 0, 1) := by decide +kernel
theorem dX11_readSplit_177 : decode cX11_readSplit 177 = .ok (.invokevirtual 211, 3) := by decide +kernel
theorem dX11_readSplit_180 : decode cX11_readSplit 180 = .ok (.iconst 0, 1) := by decide +kernel
theorem dX11_readSplit_181 : decode cX11_readSplit 181 = .ok (.istore 5, 2) := by decide +kernel
theorem dX11_readSplit_183 : decode cX11_readSplit 183 = .ok (.iconst 0, 1) := by decide +kernel
theorem dX11_readSplit_184 : decode cX11_readSplit 184 = .ok (.istore 6, 2) := by decide +kernel
theorem dX11_readSplit_186 : decode cX11_readSplit 186 = .ok (.iload 6, 2) := by decide +kernel
theorem dX11_readSplit_188 : decode cX11_readSplit 188 = .ok (.iload_n 3, 1) := by decide +kernel
theorem dX11_readSplit_189 : decode cX11_readSplit 189 = .ok (.if_icmp .ge 66, 3) := by decide +kernel
theorem dX11_readSplit_192 : decode cX11_readSplit 192 = .ok (.aload_n 0, 1) := by decide +kernel
theorem dX11_readSplit_193 : decode cX11_readSplit 193 = .ok (.iload 5, 2) := by decide +kernel
theorem dX11_readSplit_195 : decode cX11_readSplit 195 = .ok (.aload_n 0, 1) := by decide +kernel
theorem dX11_readSplit_196 : decode cX11_readSplit 196 = .ok (.getfield 197, 3) := by decide +kernel
theorem dX11_readSplit_199 : decode cX11_readSplit 199 = .ok (.iload_n 3, 1) := by decide +kernel
theorem dX11_readSplit_200 : decode cX11_readSplit 200 = .ok (.isub, 1) := by decide +kernel
theorem dX11_readSplit_201 : decode cX11_readSplit 201 = .ok (.iload 6, 2) := by decide +kernel
theorem dX11_readSplit_203 : decode cX11_readSplit 203 = .ok (.iadd, 1) := by decide +kernel
theorem dX11_readSplit_204 : decode cX11_readSplit 204 = .ok (.invokevirtual 191, 3) := by decide +kernel
theorem dX11_readSplit_207 : decode cX11_readSplit 207 = .ok (.istore 7, 2) := by decide +kernel
theorem dX11_readSplit_209 : decode cX11_readSplit 209 = .ok (.aload_n 0, 1) := by decide +kernel
theorem dX11_readSplit_210 : decode cX11_readSplit 210 = .ok (.iload_n 1, 1) := by decide +kernel
theorem dX11_readSplit_211 : decode cX11_readSplit 211 = .ok (.invokevirtual 214, 3) := by decide +kernel
theorem dX11_readSplit_214 : decode cX11_readSplit 214 = .ok (.i2l, 1) := by decide +kernel
theorem dX11_readSplit_215 : decode cX11_readSplit 215 = .ok (.lstore 8, 2) := by decide +kernel
theorem dX11_readSplit_217 : decode cX11_readSplit 217 = .ok (.aload_n 0, 1) := by decide +kernel
theorem dX11_readSplit_218 : decode cX11_readSplit 218 = .ok (.getfield 27, 3) := by decide +kernel
theorem dX11_readSplit_221 : decode cX11_readSplit 221 = .ok (.iload 7, 2) := by decide +kernel
theorem dX11_readSplit_223 : decode cX11_readSplit 223 = .ok (.lload 8, 2) := by decide +kernel
theorem dX11_readSplit_225 : decode cX11_readSplit 225 = .ok (.bipush 64, 2) := by decide +kernel
theorem dX11_readSplit_227 : decode cX11_readSplit 227 = .ok (.iload_n 1, 1) := by decide +kernel
theorem dX11_readSplit_228 : decode cX11_readSplit 228 = .ok (.isub, 1) := by decide +kernel
theorem dX11_readSplit_229 : decode cX11_readSplit 229 = .ok (.lshl, 1) := by decide +kernel
theorem dX11_readSplit_230 : decode cX11_readSplit 230 = .ok (.aload_n 0, 1) := by decide +kernel
theorem dX11_readSplit_231 : decode cX11_readSplit 231 = .ok (.getfield 27, 3) := by decide +kernel
theorem dX11_readSplit_234 : decode cX11_readSplit 234 = .ok (.iload 7, 2) := by decide +kernel
theorem dX11_readSplit_236 : decode cX11_readSplit 236 = .ok (.laload, 1) := by decide +kernel
theorem dX11_readSplit_237 : decode cX11_readSplit 237 = .ok (.iload_n 1, 1) := by decide +kernel
theorem dX11_readSplit_238 : decode cX11_readSplit 238 = .ok (.lshl, 1) := by decide +kernel
theorem dX11_readSplit_239 : decode cX11_readSplit 239 = .ok (.iload_n 1, 1) := by decide +kernel
theorem dX11_readSplit_240 : decode cX11_readSplit 240 = .ok (.lushr, 1) := by decide +kernel
theorem dX11_readSplit_241 : decode cX11_readSplit 241 = .ok (.lor, 1) := by decide +kernel
theorem dX11_readSplit_242 : decode cX11_readSplit 242 = .ok (.lastore, 1) := by decide +kernel
theorem dX11_readSplit_243 : decode cX11_readSplit 243 = .ok (.iload 7, 2) := by decide +kernel
theorem dX11_readSplit_245 : decode cX11_readSplit 245 = .ok (.iconst 1, 1) := by decide +kernel
theorem dX11_readSplit_246 : decode cX11_readSplit 246 = .ok (.iadd, 1) := by decide +kernel
theorem dX11_readSplit_247 : decode cX11_readSplit 247 = .ok (.istore 5, 2) := by decide +kernel
theorem dX11_readSplit_249 : decode cX11_readSplit 249 = .ok (.iinc 6 1, 3) := by decide +kernel
theorem dX11_readSplit_252 : decode cX11_readSplit 252 = .ok (.goto (-66), 3) := by decide +kernel
theorem dX11_readSplit_255 : decode cX11_readSplit 255 = .ok (.return_, 1) := by decide +kernel
theorem dX11_readBlock_0 : decode cX11_readBlock 0 = .ok (.aload_n 0, 1) := by decide +kernel
theorem dX11_readBlock_1 : decode cX11_readBlock 1 = .ok (.iconst 0, 1) := by decide +kernel
theorem dX11_readBlock_2 : decode cX11_readBlock 2 = .ok (.putfield 103, 3) := by decide +kernel
theorem dX11_readBlock_5 : decode cX11_readBlock 5 = .ok (.aload_n 0, 1) := by decide +kernel
theorem dX11_readBlock_6 : decode cX11_readBlock 6 = .ok (.iconst (-1), 1) := by decide +kernel
theorem dX11_readBlock_7 : decode cX11_readBlock 7 = .ok (.putfield 110, 3) := by decide +kernel
theorem dX11_readBlock_10 : decode cX11_readBlock 10 = .ok (.aload_n 0, 1) := by decide +kernel
theorem dX11_readBlock_11 : decode cX11_readBlock 11 = .ok (.bipush 7, 2) := by decide +kernel
theorem dX11_readBlock_13 : decode cX11_readBlock 13 = .ok (.putfield 188, 3) := by decide +kernel
theorem dX11_readBlock_16 : decode cX11_readBlock 16 = .ok (.aload_n 0, 1) := by decide +kernel
theorem dX11_readBlock_17 : decode cX11_readBlock 17 = .ok (.iconst 0, 1) := by decide +kernel
theorem dX11_readBlock_18 : decode cX11_readBlock 18 = .ok (.iconst 2, 1) := by decide +kernel
theorem dX11_readBlock_19 : decode cX11_readBlock 19 = .ok (.invokevirtual 191, 3) := by decide +kernel
theorem dX11_readBlock_22 : decode cX11_readBlock 22 = .ok (.istore_n 1, 1) := by decide +kernel
theorem dX11_readBlock_23 : decode cX11_readBlock 23 = .ok (.aload_n 0, 1) := by decide +kernel
theorem dX11_readBlock_24 : decode cX11_readBlock 24 = .ok (.aload_n 0, 1) := by decide +kernel
theorem dX11_readBlock_25 : decode cX11_readBlock 25 = .ok (.iconst 1, 1) := by decide +kernel
theorem dX11_readBlock_26 : decode cX11_readBlock 26 = .ok (.bipush 16, 2) := by decide +kernel
theorem dX11_readBlock_28 : decode cX11_readBlock 28 = .ok (.invokevirtual 191, 3) := by decide +kernel
theorem dX11_readBlock_31 : decode cX11_readBlock 31 = .ok (.putfield 197, 3) := by decide +kernel
theorem dX11_readBlock_34 : decode cX11_readBlock 34 = .ok (.iload_n 1, 1) := by decide +kernel
theorem dX11_readBlock_35 : decode cX11_readBlock 35 = .ok (.ifCond .ne 10, 3) := by decide +kernel
theorem dX11_readBlock_38 : decode cX11_readBlock 38 = .ok (.aload_n 0, 1) := by decide +kernel
theorem dX11_readBlock_39 : decode cX11_readBlock 39 = .ok (.invokevirtual 221, 3) := by decide +kernel
theorem dX11_readBlock_42 : decode cX11_readBlock 42 = .ok (.goto 19, 3) := by decide +kernel
theorem dX11_readBlock_45 : decode cX11_readBlock 45 = .ok (.iload_n 1, 1) := by decide +kernel
theorem dX11_readBlock_46 : decode cX11_readBlock 46 = .ok (.iconst 1, 1) := by decide +kernel
theorem dX11_readBlock_47 : decode cX11_readBlock 47 = .ok (.if_icmp .ne 10, 3) := by decide +kernel
theorem dX11_readBlock_50 : decode cX11_readBlock 50 = .ok (.aload_n 0, 1) := by decide +kernel
theorem dX11_readBlock_51 : decode cX11_readBlock 51 = .ok (.invokevirtual 224, 3) := by decide +kernel
theorem dX11_readBlock_54 : decode cX11_readBlock 54 = .ok (.goto 7, 3) := by decide +kernel
theorem dX11_readBlock_57 : decode cX11_readBlock 57 = .ok (.aload_n 0, 1) := by decide +kernel
theorem dX11_readBlock_58 : decode cX11_readBlock 58 = .ok (.invokevirtual 227, 3) := by decide +kernel
theorem dX11_readBlock_61 : decode cX11_readBlock 61 = .ok (.aload_n 0, 1) := by decide +kernel
theorem dX11_readBlock_62 : decode cX11_readBlock 62 = .ok (.aload_n 0, 1) := by decide +kernel
theorem dX11_readBlock_63 : decode cX11_readBlock 63 = .ok (.getfield 188, 3) := by decide +kernel
theorem dX11_readBlock_66 : decode cX11_readBlock 66 = .ok (.aload_n 0, 1) := by decide +kernel
theorem dX11_readBlock_67 : decode cX11_readBlock 67 = .ok (.getfield 188, 3) := by decide +kernel
theorem dX11_readBlock_70 : decode cX11_readBlock 70 = .ok (.invokevirtual 191, 3) := by decide +kernel
theorem dX11_readBlock_73 : decode cX11_readBlock 73 = .ok (.pop, 1) := by decide +kernel
theorem dX11_readBlock_74 : decode cX11_readBlock 74 = .ok (.aload_n 0, 1) := by decide +kernel
theorem dX11_readBlock_75 : decode cX11_readBlock 75 = .ok (.getfield 110, 3) := by decide +kernel
theorem dX11_readBlock_78 : decode cX11_readBlock 78 = .ok (.iconst (-1), 1) := by decide +kernel
theorem dX11_readBlock_79 : decode cX11_readBlock 79 = .ok (.if_icmp .ne 18, 3) := by decide +kernel
theorem dX11_readBlock_82 : decode cX11_readBlock 82 = .ok (.aload_n 0, 1) := by decide +kernel
theorem dX11_readBlock_83 : decode cX11_readBlock 83 = .ok (.getfield 103, 3) := by decide +kernel
theorem dX11_readBlock_86 : decode cX11_readBlock 86 = .ok (.aload_n 0, 1) := by decide +kernel
theorem dX11_readBlock_87 : decode cX11_readBlock 87 = .ok (.getfield 96, 3) := by decide +kernel
theorem dX11_readBlock_90 : decode cX11_readBlock 90 = .ok (.if_icmp .ge 7, 3) := by decide +kernel
theorem dX11_readBlock_93 : decode cX11_readBlock 93 = .ok (.aload_n 0, 1) := by decide +kernel
theorem dX11_readBlock_94 : decode cX11_readBlock 94 = .ok (.invokevirtual 120, 3) := by decide +kernel
theorem dX11_readBlock_97 : decode cX11_readBlock 97 = .ok (.aload_n 0, 1) := by decide +kernel
theorem dX11_readBlock_98 : decode cX11_readBlock 98 = .ok (.getfield 110, 3) := by decide +kernel
theorem dX11_readBlock_101 : decode cX11_readBlock 101 = .ok (.ireturn, 1) := by decide +kernel
theorem dX11_fault_0 : decode cX11_fault 0 = .ok (.iload_n 1, 1) := by decide +kernel
theorem dX11_fault_1 : decode cX11_fault 1 = .ok (.ifCond .ne 10, 3) := by decide +kernel
theorem dX11_fault_4 : decode cX11_fault 4 = .ok (.aload_n 0, 1) := by decide +kernel
theorem dX11_fault_5 : decode cX11_fault 5 = .ok (.invokevirtual 230, 3) := by decide +kernel
theorem dX11_fault_8 : decode cX11_fault 8 = .ok (.goto 17, 3) := by decide +kernel
theorem dX11_fault_11 : decode cX11_fault 11 = .ok (.iload_n 1, 1) := by decide +kernel
theorem dX11_fault_12 : decode cX11_fault 12 = .ok (.iconst 1, 1) := by decide +kernel
theorem dX11_fault_13 : decode cX11_fault 13 = .ok (.if_icmp .ne 10, 3) := by decide +kernel
theorem dX11_fault_16 : decode cX11_fault 16 = .ok (.aload_n 0, 1) := by decide +kernel
theorem dX11_fault_17 : decode cX11_fault 17 = .ok (.invokevirtual 233, 3) := by decide +kernel
theorem dX11_fault_20 : decode cX11_fault 20 = .ok (.goto 5, 3) := by decide +kernel
theorem dX11_fault_23 : decode cX11_fault 23 = .ok (.bipush (-2), 2) := by decide +kernel
theorem dX11_fault_25 : decode cX11_fault 25 = .ok (.ireturn, 1) := by decide +kernel
theorem dX11_peek_0 : decode cX11_peek 0 = .ok (.aload_n 0, 1) := by decide +kernel
theorem dX11_peek_1 : decode cX11_peek 1 = .ok (.invokevirtual 233, 3) := by decide +kernel
theorem dX11_peek_4 : decode cX11_peek 4 = .ok (.iconst (-1), 1) := by decide +kernel
theorem dX11_peek_5 : decode cX11_peek 5 = .ok (.if_icmp .ne 26, 3) := by decide +kernel
theorem dX11_peek_8 : decode cX11_peek 8 = .ok (.iload_n 1, 1) := by decide +kernel
theorem dX11_peek_9 : decode cX11_peek 9 = .ok (.iconst 0, 1) := by decide +kernel
theorem dX11_peek_10 : decode cX11_peek 10 = .ok (.aload_n 0, 1) := by decide +kernel
theorem dX11_peek_11 : decode cX11_peek 11 = .ok (.getfield 197, 3) := by decide +kernel
theorem dX11_peek_14 : decode cX11_peek 14 = .ok (.iconst 1, 1) := by decide +kernel
theorem dX11_peek_15 : decode cX11_peek 15 = .ok (.isub, 1) := by decide +kernel
theorem dX11_peek_16 : decode cX11_peek 16 = .ok (.invokestatic 99, 3) := by decide +kernel
theorem dX11_peek_19 : decode cX11_peek 19 = .ok (.ifCond .eq 12, 3) := by decide +kernel
theorem dX11_peek_22 : decode cX11_peek 22 = .ok (.aload_n 0, 1) := by decide +kernel
theorem dX11_peek_23 : decode cX11_peek 23 = .ok (.getfield 27, 3) := by decide +kernel
theorem dX11_peek_26 : decode cX11_peek 26 = .ok (.iload_n 1, 1) := by decide +kernel
theorem dX11_peek_27 : decode cX11_peek 27 = .ok (.laload, 1) := by decide +kernel
theorem dX11_peek_28 : decode cX11_peek 28 = .ok (.goto 6, 3) := by decide +kernel
theorem dX11_peek_31 : decode cX11_peek 31 = .ok (.ldc2_w 236, 3) := by decide +kernel
theorem dX11_peek_34 : decode cX11_peek 34 = .ok (.lreturn, 1) := by decide +kernel
theorem dX11_text_0 : decode cX11_text 0 = .ok (.aload_n 0, 1) := by decide +kernel
theorem dX11_text_1 : decode cX11_text 1 = .ok (.invokevirtual 230, 3) := by decide +kernel
theorem dX11_text_4 : decode cX11_text 4 = .ok (.iconst (-1), 1) := by decide +kernel
theorem dX11_text_5 : decode cX11_text 5 = .ok (.if_icmp .eq 5, 3) := by decide +kernel
theorem dX11_text_8 : decode cX11_text 8 = .ok (.iconst (-1), 1) := by decide +kernel
theorem dX11_text_9 : decode cX11_text 9 = .ok (.ireturn, 1) := by decide +kernel
theorem dX11_text_10 : decode cX11_text 10 = .ok (.aload_n 0, 1) := by decide +kernel
theorem dX11_text_11 : decode cX11_text 11 = .ok (.iconst 0, 1) := by decide +kernel
theorem dX11_text_12 : decode cX11_text 12 = .ok (.putfield 96, 3) := by decide +kernel
theorem dX11_text_15 : decode cX11_text 15 = .ok (.aload_n 0, 1) := by decide +kernel
theorem dX11_text_16 : decode cX11_text 16 = .ok (.iconst 1, 1) := by decide +kernel
theorem dX11_text_17 : decode cX11_text 17 = .ok (.putfield 238, 3) := by decide +kernel
theorem dX11_text_20 : decode cX11_text 20 = .ok (.aload_n 0, 1) := by decide +kernel
theorem dX11_text_21 : decode cX11_text 21 = .ok (.aload_n 0, 1) := by decide +kernel
theorem dX11_text_22 : decode cX11_text 22 = .ok (.getfield 173, 3) := by decide +kernel
theorem dX11_text_25 : decode cX11_text 25 = .ok (.putfield 242, 3) := by decide +kernel
theorem dX11_text_28 : decode cX11_text 28 = .ok (.iconst 0, 1) := by decide +kernel
theorem dX11_text_29 : decode cX11_text 29 = .ok (.istore_n 1, 1) := by decide +kernel
theorem dX11_text_30 : decode cX11_text 30 = .ok (.iload_n 1, 1) := by decide +kernel
theorem dX11_text_31 : decode cX11_text 31 = .ok (.iconst 5, 1) := by decide +kernel
theorem dX11_text_32 : decode cX11_text 32 = .ok (.if_icmp .ge 21, 3) := by decide +kernel
theorem dX11_text_35 : decode cX11_text 35 = .ok (.aload_n 0, 1) := by decide +kernel
theorem dX11_text_36 : decode cX11_text 36 = .ok (.getfield 36, 3) := by decide +kernel
theorem dX11_text_39 : decode cX11_text 39 = .ok (.iload_n 1, 1) := by decide +kernel
theorem dX11_text_40 : decode cX11_text 40 = .ok (.aload_n 0, 1) := by decide +kernel
theorem dX11_text_41 : decode cX11_text 41 = .ok (.getfield 20, 3) := by decide +kernel
theorem dX11_text_44 : decode cX11_text 44 = .ok (.iload_n 1, 1) := by decide +kernel
theorem dX11_text_45 : decode cX11_text 45 = .ok (.iaload, 1) := by decide +kernel
theorem dX11_text_46 : decode cX11_text 46 = .ok (.iastore, 1) := by decide +kernel
theorem dX11_text_47 : decode cX11_text 47 = .ok (.iinc 1 1, 3) := by decide +kernel
theorem dX11_text_50 : decode cX11_text 50 = .ok (.goto (-20), 3) := by decide +kernel
theorem dX11_text_53 : decode cX11_text 53 = .ok (.iconst 0, 1) := by decide +kernel
theorem dX11_text_54 : decode cX11_text 54 = .ok (.istore_n 1, 1) := by decide +kernel
theorem dX11_text_55 : decode cX11_text 55 = .ok (.iload_n 1, 1) := by decide +kernel
theorem dX11_text_56 : decode cX11_text 56 = .ok (.aload_n 0, 1) := by decide +kernel
theorem dX11_text_57 : decode cX11_text 57 = .ok (.getfield 242, 3) := by decide +kernel
theorem dX11_text_60 : decode cX11_text 60 = .ok (.if_icmp .ge 21, 3) := by decide +kernel
theorem dX11_text_63 : decode cX11_text 63 = .ok (.aload_n 0, 1) := by decide +kernel
theorem dX11_text_64 : decode cX11_text 64 = .ok (.getfield 33, 3) := by decide +kernel
theorem dX11_text_67 : decode cX11_text 67 = .ok (.iload_n 1, 1) := by decide +kernel
theorem dX11_text_68 : decode cX11_text 68 = .ok (.aload_n 0, 1) := by decide +kernel
theorem dX11_text_69 : decode cX11_text 69 = .ok (.getfield 23, 3) := by decide +kernel
theorem dX11_text_72 : decode cX11_text 72 = .ok (.iload_n 1, 1) := by decide +kernel
theorem dX11_text_73 : decode cX11_text 73 = .ok (.laload, 1) := by decide +kernel
theorem dX11_text_74 : decode cX11_text 74 = .ok (.lastore, 1) := by decide +kernel
theorem dX11_text_75 : decode cX11_text 75 = .ok (.iinc 1 1, 3) := by decide +kernel
theorem dX11_text_78 : decode cX11_text 78 = .ok (.goto (-23), 3) := by decide +kernel
theorem dX11_text_81 : decode cX11_text 81 = .ok (.aload_n 0, 1) := by decide +kernel
theorem dX11_text_82 : decode cX11_text 82 = .ok (.iconst 0, 1) := by decide +kernel
theorem dX11_text_83 : decode cX11_text 83 = .ok (.putfield 245, 3) := by decide +kernel
theorem dX11_text_86 : decode cX11_text 86 = .ok (.aload_n 0, 1) := by decide +kernel
theorem dX11_text_87 : decode cX11_text 87 = .ok (.iconst 0, 1) := by decide +kernel
theorem dX11_text_88 : decode cX11_text 88 = .ok (.putfield 248, 3) := by decide +kernel
theorem dX11_text_91 : decode cX11_text 91 = .ok (.aload_n 0, 1) := by decide +kernel
theorem dX11_text_92 : decode cX11_text 92 = .ok (.iconst 0, 1) := by decide +kernel
theorem dX11_text_93 : decode cX11_text 93 = .ok (.putfield 251, 3) := by decide +kernel
theorem dX11_text_96 : decode cX11_text 96 = .ok (.aload_n 0, 1) := by decide +kernel
theorem dX11_text_97 : decode cX11_text 97 = .ok (.iconst 0, 1) := by decide +kernel
theorem dX11_text_98 : decode cX11_text 98 = .ok (.putfield 254, 3) := by decide +kernel
theorem dX11_text_101 : decode cX11_text 101 = .ok (.aload_n 0, 1) := by decide +kernel
theorem dX11_text_102 : decode cX11_text 102 = .ok (.getfield 242, 3) := by decide +kernel
theorem dX11_text_105 : decode cX11_text 105 = .ok (.ireturn, 1) := by decide +kernel
theorem dX11_isFinite_0 : decode cX11_isFinite 0 = .ok (.lload_n 0, 1) := by decide +kernel
theorem dX11_isFinite_1 : decode cX11_isFinite 1 = .ok (.ldc2_w 163, 3) := by decide +kernel
theorem dX11_isFinite_4 : decode cX11_isFinite 4 = .ok (.land, 1) := by decide +kernel
theorem dX11_isFinite_5 : decode cX11_isFinite 5 = .ok (.ldc2_w 163, 3) := by decide +kernel
theorem dX11_isFinite_8 : decode cX11_isFinite 8 = .ok (.lcmp, 1) := by decide +kernel
theorem dX11_isFinite_9 : decode cX11_isFinite 9 = .ok (.ifCond .eq 7, 3) := by decide +kernel
theorem dX11_isFinite_12 : decode cX11_isFinite 12 = .ok (.iconst 1, 1) := by decide +kernel
theorem dX11_isFinite_13 : decode cX11_isFinite 13 = .ok (.goto 4, 3) := by decide +kernel
theorem dX11_isFinite_16 : decode cX11_isFinite 16 = .ok (.iconst 0, 1) := by decide +kernel
theorem dX11_isFinite_17 : decode cX11_isFinite 17 = .ok (.ireturn, 1) := by decide +kernel
theorem dX11_wholeOf_0 : decode cX11_wholeOf 0 = .ok (.aload_n 0, 1) := by decide +kernel
theorem dX11_wholeOf_1 : decode cX11_wholeOf 1 = .ok (.iconst 0, 1) := by decide +kernel
theorem dX11_wholeOf_2 : decode cX11_wholeOf 2 = .ok (.putfield 257, 3) := by decide +kernel
theorem dX11_wholeOf_5 : decode cX11_wholeOf 5 = .ok (.lload_n 1, 1) := by decide +kernel
theorem dX11_wholeOf_6 : decode cX11_wholeOf 6 = .ok (.invokestatic 260, 3) := by decide +kernel
theorem dX11_wholeOf_9 : decode cX11_wholeOf 9 = .ok (.ifCond .ne 5, 3) := by decide +kernel
theorem dX11_wholeOf_12 : decode cX11_wholeOf 12 = .ok (.lconst 0, 1) := by decide +kernel
theorem dX11_wholeOf_13 : decode cX11_wholeOf 13 = .ok (.lreturn, 1) := by decide +kernel
theorem dX11_wholeOf_14 : decode cX11_wholeOf 14 = .ok (.lload_n 1, 1) := by decide +kernel
theorem dX11_wholeOf_15 : decode cX11_wholeOf 15 = .ok (.invokestatic 264, 3) := by decide +kernel
theorem dX11_wholeOf_18 : decode cX11_wholeOf 18 = .ok (.aload_n 0, 1) := by decide +kernel
theorem dX11_wholeOf_19 : decode cX11_wholeOf 19 = .ok (.getfield 9, 3) := by decide +kernel
theorem dX11_wholeOf_22 : decode cX11_wholeOf 22 = .ok (.iload_n 3, 1) := by decide +kernel
theorem dX11_wholeOf_23 : decode cX11_wholeOf 23 = .ok (.daload, 1) := by decide +kernel
theorem dX11_wholeOf_24 : decode cX11_wholeOf 24 = .ok (.dmul, 1) := by decide +kernel
theorem dX11_wholeOf_25 : decode cX11_wholeOf 25 = .ok (.dstore 5, 2) := by decide +kernel
theorem dX11_wholeOf_27 : decode cX11_wholeOf 27 = .ok (.dload 5, 2) := by decide +kernel
theorem dX11_wholeOf_29 : decode cX11_wholeOf 29 = .ok (.aload_n 0, 1) := by decide +kernel
theorem dX11_wholeOf_30 : decode cX11_wholeOf 30 = .ok (.getfield 13, 3) := by decide +kernel
theorem dX11_wholeOf_33 : decode cX11_wholeOf 33 = .ok (.iload 4, 2) := by decide +kernel
theorem dX11_wholeOf_35 : decode cX11_wholeOf 35 = .ok (.daload, 1) := by decide +kernel
theorem dX11_wholeOf_36 : decode cX11_wholeOf 36 = .ok (.dmul, 1) := by decide +kernel
theorem dX11_wholeOf_37 : decode cX11_wholeOf 37 = .ok (.dstore 5, 2) := by decide +kernel
theorem dX11_wholeOf_39 : decode cX11_wholeOf 39 = .ok (.dload 5, 2) := by decide +kernel
theorem dX11_wholeOf_41 : decode cX11_wholeOf 41 = .ok (.ldc2_w 268, 3) := by decide +kernel
theorem dX11_wholeOf_44 : decode cX11_wholeOf 44 = .ok (.dcmp .l, 1) := by decide +kernel
theorem dX11_wholeOf_45 : decode cX11_wholeOf 45 = .ok (.ifCond .le 12, 3) := by decide +kernel
theorem dX11_wholeOf_48 : decode cX11_wholeOf 48 = .ok (.dload 5, 2) := by decide +kernel
theorem dX11_wholeOf_50 : decode cX11_wholeOf 50 = .ok (.ldc2_w 270, 3) := by decide +kernel
theorem dX11_wholeOf_53 : decode cX11_wholeOf 53 = .ok (.dcmp .g, 1) := by decide +kernel
theorem dX11_wholeOf_54 : decode cX11_wholeOf 54 = .ok (.ifCond .lt 5, 3) := by decide +kernel
theorem dX11_wholeOf_57 : decode cX11_wholeOf 57 = .ok (.lconst 0, 1) := by decide +kernel
theorem dX11_wholeOf_58 : decode cX11_wholeOf 58 = .ok (.lreturn, 1) := by decide +kernel
theorem dX11_wholeOf_59 : decode cX11_wholeOf 59 = .ok (.dload 5, 2) := by decide +kernel
theorem dX11_wholeOf_61 : decode cX11_wholeOf 61 = .ok (.ldc2_w 272, 3) := by decide +kernel
theorem dX11_wholeOf_64 : decode cX11_wholeOf 64 = .ok (.dadd, 1) := by decide +kernel
theorem dX11_wholeOf_65 : decode cX11_wholeOf 65 = .ok (.dstore 7, 2) := by decide +kernel
theorem dX11_wholeOf_67 : decode cX11_wholeOf 67 = .ok (.dload 7, 2) := by decide +kernel
theorem dX11_wholeOf_69 : decode cX11_wholeOf 69 = .ok (.ldc2_w 272, 3) := by decide +kernel
theorem dX11_wholeOf_72 : decode cX11_wholeOf 72 = .ok (.dsub, 1) := by decide +kernel
theorem dX11_wholeOf_73 : decode cX11_wholeOf 73 = .ok (.dstore 7, 2) := by decide +kernel
theorem dX11_wholeOf_75 : decode cX11_wholeOf 75 = .ok (.dload 7, 2) := by decide +kernel
theorem dX11_wholeOf_77 : decode cX11_wholeOf 77 = .ok (.d2l, 1) := by decide +kernel
theorem dX11_wholeOf_78 : decode cX11_wholeOf 78 = .ok (.lstore 9, 2) := by decide +kernel
theorem dX11_wholeOf_80 : decode cX11_wholeOf 80 = .ok (.aload_n 0, 1) := by decide +kernel
theorem dX11_wholeOf_81 : decode cX11_wholeOf 81 = .ok (.aload_n 0, 1) := by decide +kernel
theorem dX11_wholeOf_82 : decode cX11_wholeOf 82 = .ok (.lload 9, 2) := by decide +kernel
theorem dX11_wholeOf_84 : decode cX11_wholeOf 84 = .ok (.iload_n 3, 1) := by decide +kernel
theorem dX11_wholeOf_85 : decode cX11_wholeOf 85 = .ok (.iload 4, 2) := by decide +kernel
theorem dX11_wholeOf_87 : decode cX11_wholeOf 87 = .ok (.invokevirtual 207, 3) := by decide +kernel
theorem dX11_wholeOf_90 : decode cX11_wholeOf 90 = .ok (.invokestatic 153, 3) := by decide +kernel
theorem dX11_wholeOf_93 : decode cX11_wholeOf 93 = .ok (.lload_n 1, 1) := by decide +kernel
theorem dX11_wholeOf_94 : decode cX11_wholeOf 94 = .ok (.lcmp, 1) := by decide +kernel
theorem dX11_wholeOf_95 : decode cX11_wholeOf 95 = .ok (.ifCond .ne 7, 3) := by decide +kernel
theorem dX11_wholeOf_98 : decode cX11_wholeOf 98 = .ok (.iconst 1, 1) := by decide +kernel
theorem dX11_wholeOf_99 : decode cX11_wholeOf 99 = .ok (.goto 4, 3) := by decide +kernel
theorem dX11_wholeOf_102 : decode cX11_wholeOf 102 = .ok (.iconst 0, 1) := by decide +kernel
theorem dX11_wholeOf_103 : decode cX11_wholeOf 103 = .ok (.putfield 257, 3) := by decide +kernel
theorem dX11_wholeOf_106 : decode cX11_wholeOf 106 = .ok (.lload 9, 2) := by decide +kernel
theorem dX11_wholeOf_108 : decode cX11_wholeOf 108 = .ok (.lreturn, 1) := by decide +kernel
theorem dX11_isFit_0 : decode cX11_isFit 0 = .ok (.aload_n 0, 1) := by decide +kernel
theorem dX11_isFit_1 : decode cX11_isFit 1 = .ok (.lload_n 1, 1) := by decide +kernel
theorem dX11_isFit_2 : decode cX11_isFit 2 = .ok (.iload_n 3, 1) := by decide +kernel
theorem dX11_isFit_3 : decode cX11_isFit 3 = .ok (.iload 4, 2) := by decide +kernel
theorem dX11_isFit_5 : decode cX11_isFit 5 = .ok (.invokevirtual 274, 3) := by decide +kernel
theorem dX11_isFit_8 : decode cX11_isFit 8 = .ok (.pop2, 1) := by decide +kernel
theorem dX11_isFit_9 : decode cX11_isFit 9 = .ok (.aload_n 0, 1) := by decide +kernel
theorem dX11_isFit_10 : decode cX11_isFit 10 = .ok (.getfield 257, 3) := by decide +kernel
theorem dX11_isFit_13 : decode cX11_isFit 13 = .ok (.ireturn, 1) := by decide +kernel
theorem dX11_blocks_0 : decode cX11_blocks 0 = .ok (.aload_n 0, 1) := by decide +kernel
theorem dX11_blocks_1 : decode cX11_blocks 1 = .ok (.getfield 242, 3) := by decide +kernel
theorem dX11_blocks_4 : decode cX11_blocks 4 = .ok (.aload_n 0, 1) := by decide +kernel
theorem dX11_blocks_5 : decode cX11_blocks 5 = .ok (.getfield 36, 3) := by decide +kernel
theorem dX11_blocks_8 : decode cX11_blocks 8 = .ok (.iconst 0, 1) := by decide +kernel
theorem dX11_blocks_9 : decode cX11_blocks 9 = .ok (.iaload, 1) := by decide +kernel
theorem dX11_blocks_10 : decode cX11_blocks 10 = .ok (.iadd, 1) := by decide +kernel
theorem dX11_blocks_11 : decode cX11_blocks 11 = .ok (.iconst 1, 1) := by decide +kernel
theorem dX11_blocks_12 : decode cX11_blocks 12 = .ok (.isub, 1) := by decide +kernel
theorem dX11_blocks_13 : decode cX11_blocks 13 = .ok (.aload_n 0, 1) := by decide +kernel
theorem dX11_blocks_14 : decode cX11_blocks 14 = .ok (.getfield 36, 3) := by decide +kernel
theorem dX11_blocks_17 : decode cX11_blocks 17 = .ok (.iconst 0, 1) := by decide +kernel
theorem dX11_blocks_18 : decode cX11_blocks 18 = .ok (.iaload, 1) := by decide +kernel
theorem dX11_blocks_19 : decode cX11_blocks 19 = .ok (.idiv, 1) := by decide +kernel
theorem dX11_blocks_20 : decode cX11_blocks 20 = .ok (.ireturn, 1) := by decide +kernel
theorem dX11_longOf_0 : decode cX11_longOf 0 = .ok (.aload_n 0, 1) := by decide +kernel
theorem dX11_longOf_1 : decode cX11_longOf 1 = .ok (.getfield 36, 3) := by decide +kernel
theorem dX11_longOf_4 : decode cX11_longOf 4 = .ok (.iconst 0, 1) := by decide +kernel
theorem dX11_longOf_5 : decode cX11_longOf 5 = .ok (.iaload, 1) := by decide +kernel
theorem dX11_longOf_6 : decode cX11_longOf 6 = .ok (.aload_n 0, 1) := by decide +kernel
theorem dX11_longOf_7 : decode cX11_longOf 7 = .ok (.getfield 242, 3) := by decide +kernel
theorem dX11_longOf_10 : decode cX11_longOf 10 = .ok (.aload_n 0, 1) := by decide +kernel
theorem dX11_longOf_11 : decode cX11_longOf 11 = .ok (.getfield 36, 3) := by decide +kernel
theorem dX11_longOf_14 : decode cX11_longOf 14 = .ok (.iconst 0, 1) := by decide +kernel
theorem dX11_longOf_15 : decode cX11_longOf 15 = .ok (.iaload, 1) := by decide +kernel
theorem dX11_longOf_16 : decode cX11_longOf 16 = .ok (.iload_n 1, 1) := by decide +kernel
theorem dX11_longOf_17 : decode cX11_longOf 17 = .ok (.imul, 1) := by decide +kernel
theorem dX11_longOf_18 : decode cX11_longOf 18 = .ok (.isub, 1) := by decide +kernel
theorem dX11_longOf_19 : decode cX11_longOf 19 = .ok (.invokestatic 278, 3) := by decide +kernel
theorem dX11_longOf_22 : decode cX11_longOf 22 = .ok (.ireturn, 1) := by decide +kernel
theorem dX11_layBlock_0 : decode cX11_layBlock 0 = .ok (.aload_n 0, 1) := by decide +kernel
theorem dX11_layBlock_1 : decode cX11_layBlock 1 = .ok (.aload_n 0, 1) := by decide +kernel
theorem dX11_layBlock_2 : decode cX11_layBlock 2 = .ok (.iload_n 1, 1) := by decide +kernel
theorem dX11_layBlock_3 : decode cX11_layBlock 3 = .ok (.invokevirtual 283, 3) := by decide +kernel
theorem dX11_layBlock_6 : decode cX11_layBlock 6 = .ok (.putfield 286, 3) := by decide +kernel
theorem dX11_layBlock_9 : decode cX11_layBlock 9 = .ok (.iconst 0, 1) := by decide +kernel
theorem dX11_layBlock_10 : decode cX11_layBlock 10 = .ok (.istore_n 2, 1) := by decide +kernel
theorem dX11_layBlock_11 : decode cX11_layBlock 11 = .ok (.iload_n 2, 1) := by decide +kernel
theorem dX11_layBlock_12 : decode cX11_layBlock 12 = .ok (.aload_n 0, 1) := by decide +kernel
theorem dX11_layBlock_13 : decode cX11_layBlock 13 = .ok (.getfield 286, 3) := by decide +kernel
theorem dX11_layBlock_16 : decode cX11_layBlock 16 = .ok (.if_icmp .ge 30, 3) := by decide +kernel
theorem dX11_layBlock_19 : decode cX11_layBlock 19 = .ok (.aload_n 0, 1) := by decide +kernel
theorem dX11_layBlock_20 : decode cX11_layBlock 20 = .ok (.getfield 45, 3) := by decide +kernel
theorem dX11_layBlock_23 : decode cX11_layBlock 23 = .ok (.iload_n 2, 1) := by decide +kernel
theorem dX11_layBlock_24 : decode cX11_layBlock 24 = .ok (.aload_n 0, 1) := by decide +kernel
theorem dX11_layBlock_25 : decode cX11_layBlock 25 = .ok (.getfield 33, 3) := by decide +kernel
theorem dX11_layBlock_28 : decode cX11_layBlock 28 = .ok (.aload_n 0, 1) := by decide +kernel
theorem dX11_layBlock_29 : decode cX11_layBlock 29 = .ok (.getfield 36, 3) := by decide +kernel
theorem dX11_layBlock_32 : decode cX11_layBlock 32 = .ok (.iconst 0, 1) := by decide +kernel
theorem dX11_layBlock_33 : decode cX11_layBlock 33 = .ok (.iaload, 1) := by decide +kernel
theorem dX11_layBlock_34 : decode cX11_layBlock 34 = .ok (.iload_n 1, 1) := by decide +kernel
theorem dX11_layBlock_35 : decode cX11_layBlock 35 = .ok (.imul, 1) := by decide +kernel
theorem dX11_layBlock_36 : decode cX11_layBlock 36 = .ok (.iload_n 2, 1) := by decide +kernel
theorem dX11_layBlock_37 : decode cX11_layBlock 37 = .ok (.iadd, 1) := by decide +kernel
theorem dX11_layBlock_38 : decode cX11_layBlock 38 = .ok (.laload, 1) := by decide +kernel
theorem dX11_layBlock_39 : decode cX11_layBlock 39 = .ok (.lastore, 1) := by decide +kernel
theorem dX11_layBlock_40 : decode cX11_layBlock 40 = .ok (.iinc 2 1, 3) := by decide +kernel
theorem dX11_layBlock_43 : decode cX11_layBlock 43 = .ok (.goto (-32), 3) := by decide +kernel
theorem dX11_layBlock_46 : decode cX11_layBlock 46 = .ok (.return_, 1) := by decide +kernel
theorem dX11_laySample_0 : decode cX11_laySample 0 = .ok (.aload_n 0, 1) := by decide +kernel
theorem dX11_laySample_1 : decode cX11_laySample 1 = .ok (.iload_n 1, 1) := by decide +kernel
theorem dX11_laySample_2 : decode cX11_laySample 2 = .ok (.invokevirtual 283, 3) := by decide +kernel
theorem dX11_laySample_5 : decode cX11_laySample 5 = .ok (.istore_n 2, 1) := by decide +kernel
theorem dX11_laySample_6 : decode cX11_laySample 6 = .ok (.aload_n 0, 1) := by decide +kernel
theorem dX11_laySample_7 : decode cX11_laySample 7 = .ok (.iload_n 2, 1) := by decide +kernel
theorem dX11_laySample_8 : decode cX11_laySample 8 = .ok (.aload_n 0, 1) := by decide +kernel
theorem dX11_laySample_9 : decode cX11_laySample 9 = .ok (.getfield 36, 3) := by decide +kernel
theorem dX11_laySample_12 : decode cX11_laySample 12 = .ok (.iconst 1, 1) := by decide +kernel
theorem dX11_laySample_13 : decode cX11_laySample 13 = .ok (.iaload, 1) := by decide +kernel
theorem dX11_laySample_14 : decode cX11_laySample 14 = .ok (.invokestatic 278, 3) := by decide +kernel
theorem dX11_laySample_17 : decode cX11_laySample 17 = .ok (.putfield 286, 3) := by decide +kernel
theorem dX11_laySample_20 : decode cX11_laySample 20 = .ok (.iconst 0, 1) := by decide +kernel
theorem dX11_laySample_21 : decode cX11_laySample 21 = .ok (.istore_n 3, 1) := by decide +kernel
theorem dX11_laySample_22 : decode cX11_laySample 22 = .ok (.iload_n 3, 1) := by decide +kernel
theorem dX11_laySample_23 : decode cX11_laySample 23 = .ok (.aload_n 0, 1) := by decide +kernel
theorem dX11_laySample_24 : decode cX11_laySample 24 = .ok (.getfield 286, 3) := by decide +kernel
theorem dX11_laySample_27 : decode cX11_laySample 27 = .ok (.if_icmp .ge 37, 3) := by decide +kernel
theorem dX11_laySample_30 : decode cX11_laySample 30 = .ok (.aload_n 0, 1) := by decide +kernel
theorem dX11_laySample_31 : decode cX11_laySample 31 = .ok (.getfield 45, 3) := by decide +kernel
theorem dX11_laySample_34 : decode cX11_laySample 34 = .ok (.iload_n 3, 1) := by decide +kernel
theorem dX11_laySample_35 : decode cX11_laySample 35 = .ok (.aload_n 0, 1) := by decide +kernel
theorem dX11_laySample_36 : decode cX11_laySample 36 = .ok (.getfield 33, 3) := by decide +kernel
theorem dX11_laySample_39 : decode cX11_laySample 39 = .ok (.aload_n 0, 1) := by decide +kernel
theorem dX11_laySample_40 : decode cX11_laySample 40 = .ok (.getfield 36, 3) := by decide +kernel
theorem dX11_laySample_43 : decode cX11_laySample 43 = .ok (.iconst 0, 1) := by decide +kernel
theorem dX11_laySample_44 : decode cX11_laySample 44 = .ok (.iaload, 1) := by decide +kernel
theorem dX11_laySample_45 : decode cX11_laySample 45 = .ok (.iload_n 1, 1) := by decide +kernel
theorem dX11_laySample_46 : decode cX11_laySample 46 = .ok (.imul, 1) := by decide +kernel
theorem dX11_laySample_47 : decode cX11_laySample 47 = .ok (.iload_n 3, 1) := by decide +kernel
theorem dX11_laySample_48 : decode cX11_laySample 48 = .ok (.iload_n 2, 1) := by decide +kernel
theorem dX11_laySample_49 : decode cX11_laySample 49 = .ok (.imul, 1) := by decide +kernel
theorem dX11_laySample_50 : decode cX11_laySample 50 = .ok (.aload_n 0, 1) := by decide +kernel
theorem dX11_laySample_51 : decode cX11_laySample 51 = .ok (.getfield 286, 3) := by decide +kernel
theorem dX11_laySample_54 : decode cX11_laySample 54 = .ok (.idiv, 1) := by decide +kernel
theorem dX11_laySample_55 : decode cX11_laySample 55 = .ok (.iadd, 1) := by decide +kernel
theorem dX11_laySample_56 : decode cX11_laySample 56 = .ok (.laload, 1) := by decide +kernel
theorem dX11_laySample_57 : decode cX11_laySample 57 = .ok (.lastore, 1) := by decide +kernel
theorem dX11_laySample_58 : decode cX11_laySample 58 = .ok (.iinc 3 1, 3) := by decide +kernel
theorem dX11_laySample_61 : decode cX11_laySample 61 = .ok (.goto (-39), 3) := by decide +kernel
theorem dX11_laySample_64 : decode cX11_laySample 64 = .ok (.return_, 1) := by decide +kernel
theorem dX11_layDecimal_0 : decode cX11_layDecimal 0 = .ok (.aload_n 0, 1) := by decide +kernel
theorem dX11_layDecimal_1 : decode cX11_layDecimal 1 = .ok (.iconst 0, 1) := by decide +kernel
theorem dX11_layDecimal_2 : decode cX11_layDecimal 2 = .ok (.putfield 289, 3) := by decide +kernel
theorem dX11_layDecimal_5 : decode cX11_layDecimal 5 = .ok (.aload_n 0, 1) := by decide +kernel
theorem dX11_layDecimal_6 : decode cX11_layDecimal 6 = .ok (.lconst 0, 1) := by decide +kernel
theorem dX11_layDecimal_7 : decode cX11_layDecimal 7 = .ok (.putfield 292, 3) := by decide +kernel
theorem dX11_layDecimal_10 : decode cX11_layDecimal 10 = .ok (.aload_n 0, 1) := by decide +kernel
theorem dX11_layDecimal_11 : decode cX11_layDecimal 11 = .ok (.lconst 0, 1) := by decide +kernel
theorem dX11_layDecimal_12 : decode cX11_layDecimal 12 = .ok (.putfield 295, 3) := by decide +kernel
theorem dX11_layDecimal_15 : decode cX11_layDecimal 15 = .ok (.iconst 1, 1) := by decide +kernel
theorem dX11_layDecimal_16 : decode cX11_layDecimal 16 = .ok (.istore_n 3, 1) := by decide +kernel
theorem dX11_layDecimal_17 : decode cX11_layDecimal 17 = .ok (.iconst 0, 1) := by decide +kernel
theorem dX11_layDecimal_18 : decode cX11_layDecimal 18 = .ok (.istore 4, 2) := by decide +kernel
theorem dX11_layDecimal_20 : decode cX11_layDecimal 20 = .ok (.iload 4, 2) := by decide +kernel
theorem dX11_layDecimal_22 : decode cX11_layDecimal 22 = .ok (.aload_n 0, 1) := by decide +kernel
theorem dX11_layDecimal_23 : decode cX11_layDecimal 23 = .ok (.getfield 286, 3) := by decide +kernel
theorem dX11_layDecimal_26 : decode cX11_layDecimal 26 = .ok (.if_icmp .ge 93, 3) := by decide +kernel
theorem dX11_layDecimal_29 : decode cX11_layDecimal 29 = .ok (.aload_n 0, 1) := by decide +kernel
theorem dX11_layDecimal_30 : decode cX11_layDecimal 30 = .ok (.aload_n 0, 1) := by decide +kernel
theorem dX11_layDecimal_31 : decode cX11_layDecimal 31 = .ok (.getfield 45, 3) := by decide +kernel
theorem dX11_layDecimal_34 : decode cX11_layDecimal 34 = .ok (.iload 4, 2) := by decide +kernel
theorem dX11_layDecimal_36 : decode cX11_layDecimal 36 = .ok (.laload, 1) := by decide +kernel
theorem dX11_layDecimal_37 : decode cX11_layDecimal 37 = .ok (.iload_n 1, 1) := by decide +kernel
theorem dX11_layDecimal_38 : decode cX11_layDecimal 38 = .ok (.iload_n 2, 1) := by decide +kernel
theorem dX11_layDecimal_39 : decode cX11_layDecimal 39 = .ok (.invokevirtual 274, 3) := by decide +kernel
theorem dX11_layDecimal_42 : decode cX11_layDecimal 42 = .ok (.lstore 5, 2) := by decide +kernel
theorem dX11_layDecimal_44 : decode cX11_layDecimal 44 = .ok (.aload_n 0, 1) := by decide +kernel
theorem dX11_layDecimal_45 : decode cX11_layDecimal 45 = .ok (.getfield 257, 3) := by decide +kernel
theorem dX11_layDecimal_48 : decode cX11_layDecimal 48 = .ok (.ifCond .ne 19, 3) := by decide +kernel
theorem dX11_layDecimal_51 : decode cX11_layDecimal 51 = .ok (.aload_n 0, 1) := by decide +kernel
theorem dX11_layDecimal_52 : decode cX11_layDecimal 52 = .ok (.dup, 1) := by decide +kernel
theorem dX11_layDecimal_53 : decode cX11_layDecimal 53 = .ok (.getfield 289, 3) := by decide +kernel
theorem dX11_layDecimal_56 : decode cX11_layDecimal 56 = .ok (.iconst 1, 1) := by decide +kernel
theorem dX11_layDecimal_57 : decode cX11_layDecimal 57 = .ok (.iload 4, 2) := by decide +kernel
theorem dX11_layDecimal_59 : decode cX11_layDecimal 59 = .ok (.ishl, 1) := by decide +kernel
theorem dX11_layDecimal_60 : decode cX11_layDecimal 60 = .ok (.ior, 1) := by decide +kernel
theorem dX11_layDecimal_61 : decode cX11_layDecimal 61 = .ok (.putfield 289, 3) := by decide +kernel
theorem dX11_layDecimal_64 : decode cX11_layDecimal 64 = .ok (.goto 49, 3) := by decide +kernel
theorem dX11_layDecimal_67 : decode cX11_layDecimal 67 = .ok (.aload_n 0, 1) := by decide +kernel
theorem dX11_layDecimal_68 : decode cX11_layDecimal 68 = .ok (.iload_n 3, 1) := by decide +kernel
theorem dX11_layDecimal_69 : decode cX11_layDecimal 69 = .ok (.ifCond .eq 8, 3) := by decide +kernel
theorem dX11_layDecimal_72 : decode cX11_layDecimal 72 = .ok (.lload 5, 2) := by decide +kernel
theorem dX11_layDecimal_74 : decode cX11_layDecimal 74 = .ok (.goto 12, 3) := by decide +kernel
theorem dX11_layDecimal_77 : decode cX11_layDecimal 77 = .ok (.aload_n 0, 1) := by decide +kernel
theorem dX11_layDecimal_78 : decode cX11_layDecimal 78 = .ok (.getfield 292, 3) := by decide +kernel
theorem dX11_layDecimal_81 : decode cX11_layDecimal 81 = .ok (.lload 5, 2) := by decide +kernel
theorem dX11_layDecimal_83 : decode cX11_layDecimal 83 = .ok (.invokestatic 298, 3) := by decide +kernel
theorem dX11_layDecimal_86 : decode cX11_layDecimal 86 = .ok (.putfield 292, 3) := by decide +kernel
theorem dX11_layDecimal_89 : decode cX11_layDecimal 89 = .ok (.aload_n 0, 1) := by decide +kernel
theorem dX11_layDecimal_90 : decode cX11_layDecimal 90 = .ok (.iload_n 3, 1) := by decide +kernel
theorem dX11_layDecimal_91 : decode cX11_layDecimal 91 = .ok (.ifCond .eq 8, 3) := by decide +kernel
theorem dX11_layDecimal_94 : decode cX11_layDecimal 94 = .ok (.lload 5, 2) := by decide +kernel
theorem dX11_layDecimal_96 : decode cX11_layDecimal 96 = .ok (.goto 12, 3) := by decide +kernel
theorem dX11_layDecimal_99 : decode cX11_layDecimal 99 = .ok (.aload_n 0, 1) := by decide +kernel
theorem dX11_layDecimal_100 : decode cX11_layDecimal 100 = .ok (.getfield 295, 3) := by decide +kernel
theorem dX11_layDecimal_103 : decode cX11_layDecimal 103 = .ok (.lload 5, 2) := by decide +kernel
theorem dX11_layDecimal_105 : decode cX11_layDecimal 105 = .ok (.invokestatic 301, 3) := by decide +kernel
theorem dX11_layDecimal_108 : decode cX11_layDecimal 108 = .ok (.putfield 295, 3) := by decide +kernel
theorem dX11_layDecimal_111 : decode cX11_layDecimal 111 = .ok (.iconst 0, 1) := by decide +kernel
theorem dX11_layDecimal_112 : decode cX11_layDecimal 112 = .ok (.istore_n 3, 1) := by decide +kernel
theorem dX11_layDecimal_113 : decode cX11_layDecimal 113 = .ok (.iinc 4 1, 3) := by decide +kernel
theorem dX11_layDecimal_116 : decode cX11_layDecimal 116 = .ok (.goto (-96), 3) := by decide +kernel
theorem dX11_layDecimal_119 : decode cX11_layDecimal 119 = .ok (.aload_n 0, 1) := by decide +kernel
theorem dX11_layDecimal_120 : decode cX11_layDecimal 120 = .ok (.aload_n 0, 1) := by decide +kernel
theorem dX11_layDecimal_121 : decode cX11_layDecimal 121 = .ok (.getfield 295, 3) := by decide +kernel
theorem dX11_layDecimal_124 : decode cX11_layDecimal 124 = .ok (.aload_n 0, 1) := by decide +kernel
theorem dX11_layDecimal_125 : decode cX11_layDecimal 125 = .ok (.getfield 292, 3) := by decide +kernel
theorem dX11_layDecimal_128 : decode cX11_layDecimal 128 = .ok (.lsub, 1) := by decide +kernel
theorem dX11_layDecimal_129 : decode cX11_layDecimal 129 = .ok (.invokestatic 217, 3) := by decide +kernel
theorem dX11_layDecimal_132 : decode cX11_layDecimal 132 = .ok (.putfield 304, 3) := by decide +kernel
theorem dX11_layDecimal_135 : decode cX11_layDecimal 135 = .ok (.return_, 1) := by decide +kernel
theorem dX11_bytesFor_0 : decode cX11_bytesFor 0 = .ok (.iload_n 0, 1) := by decide +kernel
theorem dX11_bytesFor_1 : decode cX11_bytesFor 1 = .ok (.bipush 7, 2) := by decide +kernel
theorem dX11_bytesFor_3 : decode cX11_bytesFor 3 = .ok (.iadd, 1) := by decide +kernel
theorem dX11_bytesFor_4 : decode cX11_bytesFor 4 = .ok (.bipush 8, 2) := by decide +kernel
theorem dX11_bytesFor_6 : decode cX11_bytesFor 6 = .ok (.idiv, 1) := by decide +kernel
theorem dX11_bytesFor_7 : decode cX11_bytesFor 7 = .ok (.ireturn, 1) := by decide +kernel
theorem dX11_decimalCost_0 : decode cX11_decimalCost 0 = .ok (.aload_n 0, 1) := by decide +kernel
theorem dX11_decimalCost_1 : decode cX11_decimalCost 1 = .ok (.iload_n 1, 1) := by decide +kernel
theorem dX11_decimalCost_2 : decode cX11_decimalCost 2 = .ok (.iload_n 2, 1) := by decide +kernel
theorem dX11_decimalCost_3 : decode cX11_decimalCost 3 = .ok (.invokevirtual 307, 3) := by decide +kernel
theorem dX11_decimalCost_6 : decode cX11_decimalCost 6 = .ok (.bipush 15, 2) := by decide +kernel
theorem dX11_decimalCost_8 : decode cX11_decimalCost 8 = .ok (.aload_n 0, 1) := by decide +kernel
theorem dX11_decimalCost_9 : decode cX11_decimalCost 9 = .ok (.getfield 286, 3) := by decide +kernel
theorem dX11_decimalCost_12 : decode cX11_decimalCost 12 = .ok (.aload_n 0, 1) := by decide +kernel
theorem dX11_decimalCost_13 : decode cX11_decimalCost 13 = .ok (.getfield 304, 3) := by decide +kernel
theorem dX11_decimalCost_16 : decode cX11_decimalCost 16 = .ok (.imul, 1) := by decide +kernel
theorem dX11_decimalCost_17 : decode cX11_decimalCost 17 = .ok (.invokestatic 311, 3) := by decide +kernel
theorem dX11_decimalCost_20 : decode cX11_decimalCost 20 = .ok (.iadd, 1) := by decide +kernel
theorem dX11_decimalCost_21 : decode cX11_decimalCost 21 = .ok (.bipush 9, 2) := by decide +kernel
theorem dX11_decimalCost_23 : decode cX11_decimalCost 23 = .ok (.aload_n 0, 1) := by decide +kernel
theorem dX11_decimalCost_24 : decode cX11_decimalCost 24 = .ok (.getfield 289, 3) := by decide +kernel
theorem dX11_decimalCost_27 : decode cX11_decimalCost 27 = .ok (.invokestatic 314, 3) := by decide +kernel
theorem dX11_decimalCost_30 : decode cX11_decimalCost 30 = .ok (.imul, 1) := by decide +kernel
theorem dX11_decimalCost_31 : decode cX11_decimalCost 31 = .ok (.iadd, 1) := by decide +kernel
theorem dX11_decimalCost_32 : decode cX11_decimalCost 32 = .ok (.ireturn, 1) := by decide +kernel
theorem dX11_rawCost_0 : decode cX11_rawCost 0 = .ok (.iconst 3, 1) := by decide +kernel
theorem dX11_rawCost_1 : decode cX11_rawCost 1 = .ok (.bipush 8, 2) := by decide +kernel
theorem dX11_rawCost_3 : decode cX11_rawCost 3 = .ok (.aload_n 0, 1) := by decide +kernel
theorem dX11_rawCost_4 : decode cX11_rawCost 4 = .ok (.getfield 286, 3) := by decide +kernel
theorem dX11_rawCost_7 : decode cX11_rawCost 7 = .ok (.imul, 1) := by decide +kernel
theorem dX11_rawCost_8 : decode cX11_rawCost 8 = .ok (.iadd, 1) := by decide +kernel
theorem dX11_rawCost_9 : decode cX11_rawCost 9 = .ok (.ireturn, 1) := by decide +kernel
theorem dX11_partOf_0 : decode cX11_partOf 0 = .ok (.lload_n 1, 1) := by decide +kernel
theorem dX11_partOf_1 : decode cX11_partOf 1 = .ok (.bipush 64, 2) := by decide +kernel
theorem dX11_partOf_3 : decode cX11_partOf 3 = .ok (.aload_n 0, 1) := by decide +kernel
theorem dX11_partOf_4 : decode cX11_partOf 4 = .ok (.getfield 36, 3) := by decide +kernel
theorem dX11_partOf_7 : decode cX11_partOf 7 = .ok (.iconst 3, 1) := by decide +kernel
theorem dX11_partOf_8 : decode cX11_partOf 8 = .ok (.iaload, 1) := by decide +kernel
theorem dX11_partOf_9 : decode cX11_partOf 9 = .ok (.isub, 1) := by decide +kernel
theorem dX11_partOf_10 : decode cX11_partOf 10 = .ok (.lushr, 1) := by decide +kernel
theorem dX11_partOf_11 : decode cX11_partOf 11 = .ok (.l2i, 1) := by decide +kernel
theorem dX11_partOf_12 : decode cX11_partOf 12 = .ok (.ireturn, 1) := by decide +kernel
theorem dX11_laySplit_0 : decode cX11_laySplit 0 = .ok (.iconst 0, 1) := by decide +kernel
theorem dX11_laySplit_1 : decode cX11_laySplit 1 = .ok (.istore_n 1, 1) := by decide +kernel
theorem dX11_laySplit_2 : decode cX11_laySplit 2 = .ok (.iconst 0, 1) := by decide +kernel
theorem dX11_laySplit_3 : decode cX11_laySplit 3 = .ok (.istore_n 2, 1) := by decide +kernel
theorem dX11_laySplit_4 : decode cX11_laySplit 4 = .ok (.iload_n 2, 1) := by decide +kernel
theorem dX11_laySplit_5 : decode cX11_laySplit 5 = .ok (.aload_n 0, 1) := by decide +kernel
theorem dX11_laySplit_6 : decode cX11_laySplit 6 = .ok (.getfield 286, 3) := by decide +kernel
theorem dX11_laySplit_9 : decode cX11_laySplit 9 = .ok (.if_icmp .ge 82, 3) := by decide +kernel
theorem dX11_laySplit_12 : decode cX11_laySplit 12 = .ok (.iconst 0, 1) := by decide +kernel
theorem dX11_laySplit_13 : decode cX11_laySplit 13 = .ok (.istore_n 3, 1) := by decide +kernel
theorem dX11_laySplit_14 : decode cX11_laySplit 14 = .ok (.iload_n 3, 1) := by decide +kernel
theorem dX11_laySplit_15 : decode cX11_laySplit 15 = .ok (.iload_n 1, 1) := by decide +kernel
theorem dX11_laySplit_16 : decode cX11_laySplit 16 = .ok (.if_icmp .ge 28, 3) := by decide +kernel
theorem dX11_laySplit_19 : decode cX11_laySplit 19 = .ok (.aload_n 0, 1) := by decide +kernel
theorem dX11_laySplit_20 : decode cX11_laySplit 20 = .ok (.getfield 48, 3) := by decide +kernel
theorem dX11_laySplit_23 : decode cX11_laySplit 23 = .ok (.iload_n 3, 1) := by decide +kernel
theorem dX11_laySplit_24 : decode cX11_laySplit 24 = .ok (.iaload, 1) := by decide +kernel
theorem dX11_laySplit_25 : decode cX11_laySplit 25 = .ok (.aload_n 0, 1) := by decide +kernel
theorem dX11_laySplit_26 : decode cX11_laySplit 26 = .ok (.aload_n 0, 1) := by decide +kernel
theorem dX11_laySplit_27 : decode cX11_laySplit 27 = .ok (.getfield 45, 3) := by decide +kernel
theorem dX11_laySplit_30 : decode cX11_laySplit 30 = .ok (.iload_n 2, 1) := by decide +kernel
theorem dX11_laySplit_31 : decode cX11_laySplit 31 = .ok (.laload, 1) := by decide +kernel
theorem dX11_laySplit_32 : decode cX11_laySplit 32 = .ok (.invokevirtual 317, 3) := by decide +kernel
theorem dX11_laySplit_35 : decode cX11_laySplit 35 = .ok (.if_icmp .eq 9, 3) := by decide +kernel
theorem dX11_laySplit_38 : decode cX11_laySplit 38 = .ok (.iinc 3 1, 3) := by decide +kernel
theorem dX11_laySplit_41 : decode cX11_laySplit 41 = .ok (.goto (-27), 3) := by decide +kernel
theorem dX11_laySplit_44 : decode cX11_laySplit 44 = .ok (.iload_n 3, 1) := by decide +kernel
theorem dX11_laySplit_45 : decode cX11_laySplit 45 = .ok (.iload_n 1, 1) := by decide +kernel
theorem dX11_laySplit_46 : decode cX11_laySplit 46 = .ok (.if_icmp .ne 29, 3) := by decide +kernel
theorem dX11_laySplit_49 : decode cX11_laySplit 49 = .ok (.aload_n 0, 1) := by decide +kernel
theorem dX11_laySplit_50 : decode cX11_laySplit 50 = .ok (.getfield 48, 3) := by decide +kernel
theorem dX11_laySplit_53 : decode cX11_laySplit 53 = .ok (.iload_n 3, 1) := by decide +kernel
theorem dX11_laySplit_54 : decode cX11_laySplit 54 = .ok (.aload_n 0, 1) := by decide +kernel
theorem dX11_laySplit_55 : decode cX11_laySplit 55 = .ok (.aload_n 0, 1) := by decide +kernel
theorem dX11_laySplit_56 : decode cX11_laySplit 56 = .ok (.getfield 45, 3) := by decide +kernel
theorem dX11_laySplit_59 : decode cX11_laySplit 59 = .ok (.iload_n 2, 1) := by decide +kernel
theorem dX11_laySplit_60 : decode cX11_laySplit 60 = .ok (.laload, 1) := by decide +kernel
theorem dX11_laySplit_61 : decode cX11_laySplit 61 = .ok (.invokevirtual 317, 3) := by decide +kernel
theorem dX11_laySplit_64 : decode cX11_laySplit 64 = .ok (.iastore, 1) := by decide +kernel
theorem dX11_laySplit_65 : decode cX11_laySplit 65 = .ok (.aload_n 0, 1) := by decide +kernel
theorem dX11_laySplit_66 : decode cX11_laySplit 66 = .ok (.getfield 51, 3) := by decide +kernel
theorem dX11_laySplit_69 : decode cX11_laySplit 69 = .ok (.iload_n 3, 1) := by decide +kernel
theorem dX11_laySplit_70 : decode cX11_laySplit 70 = .ok (.iconst 0, 1) := by decide +kernel
theorem dX11_laySplit_71 : decode cX11_laySplit 71 = .ok (.iastore, 1) := by decide +kernel
theorem dX11_laySplit_72 : decode cX11_laySplit 72 = .ok (.iinc 1 1, 3) := by decide +kernel
theorem dX11_laySplit_75 : decode cX11_laySplit 75 = .ok (.aload_n 0, 1) := by decide +kernel
theorem dX11_laySplit_76 : decode cX11_laySplit 76 = .ok (.getfield 51, 3) := by decide +kernel
theorem dX11_laySplit_79 : decode cX11_laySplit 79 = .ok (.iload_n 3, 1) := by decide +kernel
theorem dX11_laySplit_80 : decode cX11_laySplit 80 = .ok (.dup2, 1) := by decide +kernel
theorem dX11_laySplit_81 : decode cX11_laySplit 81 = .ok (.iaload, 1) := by decide +kernel
theorem dX11_laySplit_82 : decode cX11_laySplit 82 = .ok (.iconst 1, 1) := by decide +kernel
theorem dX11_laySplit_83 : decode cX11_laySplit 83 = .ok (.iadd, 1) := by decide +kernel
theorem dX11_laySplit_84 : decode cX11_laySplit 84 = .ok (.iastore, 1) := by decide +kernel
theorem dX11_laySplit_85 : decode cX11_laySplit 85 = .ok (.iinc 2 1, 3) := by decide +kernel
theorem dX11_laySplit_88 : decode cX11_laySplit 88 = .ok (.goto (-84), 3) := by decide +kernel
theorem dX11_laySplit_91 : decode cX11_laySplit 91 = .ok (.iconst 1, 1) := by decide +kernel
theorem dX11_laySplit_92 : decode cX11_laySplit 92 = .ok (.istore_n 2, 1) := by decide +kernel
theorem dX11_laySplit_93 : decode cX11_laySplit 93 = .ok (.iload_n 2, 1) := by decide +kernel
theorem dX11_laySplit_94 : decode cX11_laySplit 94 = .ok (.iload_n 1, 1) := by decide +kernel
theorem dX11_laySplit_95 : decode cX11_laySplit 95 = .ok (.if_icmp .ge 102, 3) := by decide +kernel
theorem dX11_laySplit_98 : decode cX11_laySplit 98 = .ok (.iload_n 2, 1) := by decide +kernel
theorem dX11_laySplit_99 : decode cX11_laySplit 99 = .ok (.istore_n 3, 1) := by decide +kernel
theorem dX11_laySplit_100 : decode cX11_laySplit 100 = .ok (.iload_n 3, 1) := by decide +kernel
theorem dX11_laySplit_101 : decode cX11_laySplit 101 = .ok (.ifCond .le 90, 3) := by decide +kernel
theorem dX11_laySplit_104 : decode cX11_laySplit 104 = .ok (.aload_n 0, 1) := by decide +kernel
theorem dX11_laySplit_105 : decode cX11_laySplit 105 = .ok (.getfield 51, 3) := by decide +kernel
theorem dX11_laySplit_108 : decode cX11_laySplit 108 = .ok (.iload_n 3, 1) := by decide +kernel
theorem dX11_laySplit_109 : decode cX11_laySplit 109 = .ok (.iaload, 1) := by decide +kernel
theorem dX11_laySplit_110 : decode cX11_laySplit 110 = .ok (.aload_n 0, 1) := by decide +kernel
theorem dX11_laySplit_111 : decode cX11_laySplit 111 = .ok (.getfield 51, 3) := by decide +kernel
theorem dX11_laySplit_114 : decode cX11_laySplit 114 = .ok (.iload_n 3, 1) := by decide +kernel
theorem dX11_laySplit_115 : decode cX11_laySplit 115 = .ok (.iconst 1, 1) := by decide +kernel
theorem dX11_laySplit_116 : decode cX11_laySplit 116 = .ok (.isub, 1) := by decide +kernel
theorem dX11_laySplit_117 : decode cX11_laySplit 117 = .ok (.iaload, 1) := by decide +kernel
theorem dX11_laySplit_118 : decode cX11_laySplit 118 = .ok (.if_icmp .le 73, 3) := by decide +kernel
theorem dX11_laySplit_121 : decode cX11_laySplit 121 = .ok (.aload_n 0, 1) := by decide +kernel
theorem dX11_laySplit_122 : decode cX11_laySplit 122 = .ok (.getfield 48, 3) := by decide +kernel
theorem dX11_laySplit_125 : decode cX11_laySplit 125 = .ok (.iload_n 3, 1) := by decide +kernel
theorem dX11_laySplit_126 : decode cX11_laySplit 126 = .ok (.iaload, 1) := by decide +kernel
theorem dX11_laySplit_127 : decode cX11_laySplit 127 = .ok (.istore 4, 2) := by decide +kernel
theorem dX11_laySplit_129 : decode cX11_laySplit 129 = .ok (.aload_n 0, 1) := by decide +kernel
theorem dX11_laySplit_130 : decode cX11_laySplit 130 = .ok (.getfield 51, 3) := by decide +kernel
theorem dX11_laySplit_133 : decode cX11_laySplit 133 = .ok (.iload_n 3, 1) := by decide +kernel
theorem dX11_laySplit_134 : decode cX11_laySplit 134 = .ok (.iaload, 1) := by decide +kernel
theorem dX11_laySplit_135 : decode cX11_laySplit 135 = .ok (.istore 5, 2) := by decide +kernel
theorem dX11_laySplit_137 : decode cX11_laySplit 137 = .ok (.aload_n 0, 1) := by decide +kernel
theorem dX11_laySplit_138 : decode cX11_laySplit 138 = .ok (.getfield 48, 3) := by decide +kernel
theorem dX11_laySplit_141 : decode cX11_laySplit 141 = .ok (.iload_n 3, 1) := by decide +kernel
theorem dX11_laySplit_142 : decode cX11_laySplit 142 = .ok (.aload_n 0, 1) := by decide +kernel
theorem dX11_laySplit_143 : decode cX11_laySplit 143 = .ok (.getfield 48, 3) := by decide +kernel
theorem dX11_laySplit_146 : decode cX11_laySplit 146 = .ok (.iload_n 3, 1) := by decide +kernel
theorem dX11_laySplit_147 : decode cX11_laySplit 147 = .ok (.iconst 1, 1) := by decide +kernel
theorem dX11_laySplit_148 : decode cX11_laySplit 148 = .ok (.isub, 1) := by decide +kernel
theorem dX11_laySplit_149 : decode cX11_laySplit 149 = .ok (.iaload, 1) := by decide +kernel
theorem dX11_laySplit_150 : decode cX11_laySplit 150 = .ok (.iastore, 1) := by decide +kernel
theorem dX11_laySplit_151 : decode cX11_laySplit 151 = .ok (.aload_n 0, 1) := by decide +kernel
theorem dX11_laySplit_152 : decode cX11_laySplit 152 = .ok (.getfield 51, 3) := by decide +kernel
theorem dX11_laySplit_155 : decode cX11_laySplit 155 = .ok (.iload_n 3, 1) := by decide +kernel
theorem dX11_laySplit_156 : decode cX11_laySplit 156 = .ok (.aload_n 0, 1) := by decide +kernel
theorem dX11_laySplit_157 : decode cX11_laySplit 157 = .ok (.getfield 51, 3) := by decide +kernel
theorem dX11_laySplit_160 : decode cX11_laySplit 160 = .ok (.iload_n 3, 1) := by decide +kernel
theorem dX11_laySplit_161 : decode cX11_laySplit 161 = .ok (.iconst 1, 1) := by decide +kernel
theorem dX11_laySplit_162 : decode cX11_laySplit 162 = .ok (.isub, 1) := by decide +kernel
theorem dX11_laySplit_163 : decode cX11_laySplit 163 = .ok (.iaload, 1) := by decide +kernel
theorem dX11_laySplit_164 : decode cX11_laySplit 164 = .ok (.iastore, 1) := by decide +kernel
theorem dX11_laySplit_165 : decode cX11_laySplit 165 = .ok (.aload_n 0, 1) := by decide +kernel
theorem dX11_laySplit_166 : decode cX11_laySplit 166 = .ok (.getfield 48, 3) := by decide +kernel
theorem dX11_laySplit_169 : decode cX11_laySplit 169 = .ok (.iload_n 3, 1) := by decide +kernel
theorem dX11_laySplit_170 : decode cX11_laySplit 170 = .ok (.iconst 1, 1) := by decide +kernel
theorem dX11_laySplit_171 : decode cX11_laySplit 171 = .ok (.isub, 1) := by decide +kernel
theorem dX11_laySplit_172 : decode cX11_laySplit 172 = .ok (.iload 4, 2) := by decide +kernel
theorem dX11_laySplit_174 : decode cX11_laySplit 174 = .ok (.iastore, 1) := by decide +kernel
theorem dX11_laySplit_175 : decode cX11_laySplit 175 = .ok (.aload_n 0, 1) := by decide +kernel
theorem dX11_laySplit_176 : decode cX11_laySplit 176 = .ok (.getfield 51, 3) := by decide +kernel
theorem dX11_laySplit_179 : decode cX11_laySplit 179 = .ok (.iload_n 3, 1) := by decide +kernel
theorem dX11_laySplit_180 : decode cX11_laySplit 180 = .ok (.iconst 1, 1) := by decide +kernel
theorem dX11_laySplit_181 : decode cX11_laySplit 181 = .ok (.isub, 1) := by decide +kernel
theorem dX11_laySplit_182 : decode cX11_laySplit 182 = .ok (.iload 5, 2) := by decide +kernel
theorem dX11_laySplit_184 : decode cX11_laySplit 184 = .ok (.iastore, 1) := by decide +kernel
theorem dX11_laySplit_185 : decode cX11_laySplit 185 = .ok (.iinc 3 (-1), 3) := by decide +kernel
theorem dX11_laySplit_188 : decode cX11_laySplit 188 = .ok (.goto (-88), 3) := by decide +kernel
theorem dX11_laySplit_191 : decode cX11_laySplit 191 = .ok (.iinc 2 1, 3) := by decide +kernel
theorem dX11_laySplit_194 : decode cX11_laySplit 194 = .ok (.goto (-101), 3) := by decide +kernel
theorem dX11_laySplit_197 : decode cX11_laySplit 197 = .ok (.aload_n 0, 1) := by decide +kernel
theorem dX11_laySplit_198 : decode cX11_laySplit 198 = .ok (.iload_n 1, 1) := by decide +kernel
theorem dX11_laySplit_199 : decode cX11_laySplit 199 = .ok (.aload_n 0, 1) := by decide +kernel
theorem dX11_laySplit_200 : decode cX11_laySplit 200 = .ok (.getfield 36, 3) := by decide +kernel
theorem dX11_laySplit_203 : decode cX11_laySplit 203 = .ok (.iconst 4, 1) := by decide +kernel
theorem dX11_laySplit_204 : decode cX11_laySplit 204 = .ok (.iaload, 1) := by decide +kernel
theorem dX11_laySplit_205 : decode cX11_laySplit 205 = .ok (.invokestatic 278, 3) := by decide +kernel
theorem dX11_laySplit_208 : decode cX11_laySplit 208 = .ok (.putfield 320, 3) := by decide +kernel
theorem dX11_laySplit_211 : decode cX11_laySplit 211 = .ok (.aload_n 0, 1) := by decide +kernel
theorem dX11_laySplit_212 : decode cX11_laySplit 212 = .ok (.iconst 0, 1) := by decide +kernel
theorem dX11_laySplit_213 : decode cX11_laySplit 213 = .ok (.putfield 289, 3) := by decide +kernel
theorem dX11_laySplit_216 : decode cX11_laySplit 216 = .ok (.iconst 0, 1) := by decide +kernel
theorem dX11_laySplit_217 : decode cX11_laySplit 217 = .ok (.istore_n 2, 1) := by decide +kernel
theorem dX11_laySplit_218 : decode cX11_laySplit 218 = .ok (.iload_n 2, 1) := by decide +kernel
theorem dX11_laySplit_219 : decode cX11_laySplit 219 = .ok (.aload_n 0, 1) := by decide +kernel
theorem dX11_laySplit_220 : decode cX11_laySplit 220 = .ok (.getfield 286, 3) := by decide +kernel
theorem dX11_laySplit_223 : decode cX11_laySplit 223 = .ok (.if_icmp .ge 39, 3) := by decide +kernel
theorem dX11_laySplit_226 : decode cX11_laySplit 226 = .ok (.aload_n 0, 1) := by decide +kernel
theorem dX11_laySplit_227 : decode cX11_laySplit 227 = .ok (.dup, 1) := by decide +kernel
theorem dX11_laySplit_228 : decode cX11_laySplit 228 = .ok (.getfield 289, 3) := by decide +kernel
theorem dX11_laySplit_231 : decode cX11_laySplit 231 = .ok (.aload_n 0, 1) := by decide +kernel
theorem dX11_laySplit_232 : decode cX11_laySplit 232 = .ok (.aload_n 0, 1) := by decide +kernel
theorem dX11_laySplit_233 : decode cX11_laySplit 233 = .ok (.getfield 45, 3) := by decide +kernel
theorem dX11_laySplit_236 : decode cX11_laySplit 236 = .ok (.iload_n 2, 1) := by decide +kernel
theorem dX11_laySplit_237 : decode cX11_laySplit 237 = .ok (.laload, 1) := by decide +kernel
theorem dX11_laySplit_238 : decode cX11_laySplit 238 = .ok (.invokevirtual 323, 3) := by decide +kernel
theorem dX11_laySplit_241 : decode cX11_laySplit 241 = .ok (.iconst (-1), 1) := by decide +kernel
theorem dX11_laySplit_242 : decode cX11_laySplit 242 = .ok (.if_icmp .ne 9, 3) := by decide +kernel
theorem dX11_laySplit_245 : decode cX11_laySplit 245 = .ok (.iconst 1, 1) := by decide +kernel
theorem dX11_laySplit_246 : decode cX11_laySplit 246 = .ok (.iload_n 2, 1) := by decide +kernel
theorem dX11_laySplit_247 : decode cX11_laySplit 247 = .ok (.ishl, 1) := by decide +kernel
theorem dX11_laySplit_248 : decode cX11_laySplit 248 = .ok (.goto 4, 3) := by decide +kernel
theorem dX11_laySplit_251 : decode cX11_laySplit 251 = .ok (.iconst 0, 1) := by decide +kernel
theorem dX11_laySplit_252 : decode cX11_laySplit 252 = .ok (.ior, 1) := by decide +kernel
theorem dX11_laySplit_253 : decode cX11_laySplit 253 = .ok (.putfield 289, 3) := by decide +kernel
theorem dX11_laySplit_256 : decode cX11_laySplit 256 = .ok (.iinc 2 1, 3) := by decide +kernel
theorem dX11_laySplit_259 : decode cX11_laySplit 259 = .ok (.goto (-41), 3) := by decide +kernel
theorem dX11_laySplit_262 : decode cX11_laySplit 262 = .ok (.return_, 1) := by decide +kernel
theorem dX11_codeOf_0 : decode cX11_codeOf 0 = .ok (.iconst 0, 1) := by decide +kernel
theorem dX11_codeOf_1 : decode cX11_codeOf 1 = .ok (.istore_n 3, 1) := by decide +kernel
theorem dX11_codeOf_2 : decode cX11_codeOf 2 = .ok (.iload_n 3, 1) := by decide +kernel
theorem dX11_codeOf_3 : decode cX11_codeOf 3 = .ok (.aload_n 0, 1) := by decide +kernel
theorem dX11_codeOf_4 : decode cX11_codeOf 4 = .ok (.getfield 320, 3) := by decide +kernel
theorem dX11_codeOf_7 : decode cX11_codeOf 7 = .ok (.if_icmp .ge 25, 3) := by decide +kernel
theorem dX11_codeOf_10 : decode cX11_codeOf 10 = .ok (.aload_n 0, 1) := by decide +kernel
theorem dX11_codeOf_11 : decode cX11_codeOf 11 = .ok (.getfield 48, 3) := by decide +kernel
theorem dX11_codeOf_14 : decode cX11_codeOf 14 = .ok (.iload_n 3, 1) := by decide +kernel
theorem dX11_codeOf_15 : decode cX11_codeOf 15 = .ok (.iaload, 1) := by decide +kernel
theorem dX11_codeOf_16 : decode cX11_codeOf 16 = .ok (.aload_n 0, 1) := by decide +kernel
theorem dX11_codeOf_17 : decode cX11_codeOf 17 = .ok (.lload_n 1, 1) := by decide +kernel
theorem dX11_codeOf_18 : decode cX11_codeOf 18 = .ok (.invokevirtual 317, 3) := by decide +kernel
theorem dX11_codeOf_21 : decode cX11_codeOf 21 = .ok (.if_icmp .ne 5, 3) := by decide +kernel
theorem dX11_codeOf_24 : decode cX11_codeOf 24 = .ok (.iload_n 3, 1) := by decide +kernel
theorem dX11_codeOf_25 : decode cX11_codeOf 25 = .ok (.ireturn, 1) := by decide +kernel
theorem dX11_codeOf_26 : decode cX11_codeOf 26 = .ok (.iinc 3 1, 3) := by decide +kernel
theorem dX11_codeOf_29 : decode cX11_codeOf 29 = .ok (.goto (-27), 3) := by decide +kernel
theorem dX11_codeOf_32 : decode cX11_codeOf 32 = .ok (.iconst (-1), 1) := by decide +kernel
theorem dX11_codeOf_33 : decode cX11_codeOf 33 = .ok (.ireturn, 1) := by decide +kernel
theorem dX11_splitCost_0 : decode cX11_splitCost 0 = .ok (.aload_n 0, 1) := by decide +kernel
theorem dX11_splitCost_1 : decode cX11_splitCost 1 = .ok (.invokevirtual 326, 3) := by decide +kernel
theorem dX11_splitCost_4 : decode cX11_splitCost 4 = .ok (.bipush 6, 2) := by decide +kernel
theorem dX11_splitCost_6 : decode cX11_splitCost 6 = .ok (.iconst 2, 1) := by decide +kernel
theorem dX11_splitCost_7 : decode cX11_splitCost 7 = .ok (.aload_n 0, 1) := by decide +kernel
theorem dX11_splitCost_8 : decode cX11_splitCost 8 = .ok (.getfield 320, 3) := by decide +kernel
theorem dX11_splitCost_11 : decode cX11_splitCost 11 = .ok (.imul, 1) := by decide +kernel
theorem dX11_splitCost_12 : decode cX11_splitCost 12 = .ok (.iadd, 1) := by decide +kernel
theorem dX11_splitCost_13 : decode cX11_splitCost 13 = .ok (.aload_n 0, 1) := by decide +kernel
theorem dX11_splitCost_14 : decode cX11_splitCost 14 = .ok (.getfield 286, 3) := by decide +kernel
theorem dX11_splitCost_17 : decode cX11_splitCost 17 = .ok (.aload_n 0, 1) := by decide +kernel
theorem dX11_splitCost_18 : decode cX11_splitCost 18 = .ok (.getfield 320, 3) := by decide +kernel
theorem dX11_splitCost_21 : decode cX11_splitCost 21 = .ok (.iconst 1, 1) := by decide +kernel
theorem dX11_splitCost_22 : decode cX11_splitCost 22 = .ok (.isub, 1) := by decide +kernel
theorem dX11_splitCost_23 : decode cX11_splitCost 23 = .ok (.i2l, 1) := by decide +kernel
theorem dX11_splitCost_24 : decode cX11_splitCost 24 = .ok (.invokestatic 217, 3) := by decide +kernel
theorem dX11_splitCost_27 : decode cX11_splitCost 27 = .ok (.bipush 64, 2) := by decide +kernel
theorem dX11_splitCost_29 : decode cX11_splitCost 29 = .ok (.iadd, 1) := by decide +kernel
theorem dX11_splitCost_30 : decode cX11_splitCost 30 = .ok (.aload_n 0, 1) := by decide +kernel
theorem dX11_splitCost_31 : decode cX11_splitCost 31 = .ok (.getfield 36, 3) := by decide +kernel
theorem dX11_splitCost_34 : decode cX11_splitCost 34 = .ok (.iconst 3, 1) := by decide +kernel
theorem dX11_splitCost_35 : decode cX11_splitCost 35 = .ok (.iaload, 1) := by decide +kernel
theorem dX11_splitCost_36 : decode cX11_splitCost 36 = .ok (.isub, 1) := by decide +kernel
theorem dX11_splitCost_37 : decode cX11_splitCost 37 = .ok (.imul, 1) := by decide +kernel
theorem dX11_splitCost_38 : decode cX11_splitCost 38 = .ok (.invokestatic 311, 3) := by decide +kernel
theorem dX11_splitCost_41 : decode cX11_splitCost 41 = .ok (.iadd, 1) := by decide +kernel
theorem dX11_splitCost_42 : decode cX11_splitCost 42 = .ok (.iconst 3, 1) := by decide +kernel
theorem dX11_splitCost_43 : decode cX11_splitCost 43 = .ok (.aload_n 0, 1) := by decide +kernel
theorem dX11_splitCost_44 : decode cX11_splitCost 44 = .ok (.getfield 289, 3) := by decide +kernel
theorem dX11_splitCost_47 : decode cX11_splitCost 47 = .ok (.invokestatic 314, 3) := by decide +kernel
theorem dX11_splitCost_50 : decode cX11_splitCost 50 = .ok (.imul, 1) := by decide +kernel
theorem dX11_splitCost_51 : decode cX11_splitCost 51 = .ok (.iadd, 1) := by decide +kernel
theorem dX11_splitCost_52 : decode cX11_splitCost 52 = .ok (.ireturn, 1) := by decide +kernel
theorem dX11_scoreOf_0 : decode cX11_scoreOf 0 = .ok (.iconst 0, 1) := by decide +kernel
theorem dX11_scoreOf_1 : decode cX11_scoreOf 1 = .ok (.istore_n 3, 1) := by decide +kernel
theorem dX11_scoreOf_2 : decode cX11_scoreOf 2 = .ok (.iconst 0, 1) := by decide +kernel
theorem dX11_scoreOf_3 : decode cX11_scoreOf 3 = .ok (.istore 4, 2) := by decide +kernel
theorem dX11_scoreOf_5 : decode cX11_scoreOf 5 = .ok (.iload 4, 2) := by decide +kernel
theorem dX11_scoreOf_7 : decode cX11_scoreOf 7 = .ok (.aload_n 0, 1) := by decide +kernel
theorem dX11_scoreOf_8 : decode cX11_scoreOf 8 = .ok (.invokevirtual 329, 3) := by decide +kernel
theorem dX11_scoreOf_11 : decode cX11_scoreOf 11 = .ok (.if_icmp .ge 24, 3) := by decide +kernel
theorem dX11_scoreOf_14 : decode cX11_scoreOf 14 = .ok (.aload_n 0, 1) := by decide +kernel
theorem dX11_scoreOf_15 : decode cX11_scoreOf 15 = .ok (.iload 4, 2) := by decide +kernel
theorem dX11_scoreOf_17 : decode cX11_scoreOf 17 = .ok (.invokevirtual 332, 3) := by decide +kernel
theorem dX11_scoreOf_20 : decode cX11_scoreOf 20 = .ok (.iload_n 3, 1) := by decide +kernel
theorem dX11_scoreOf_21 : decode cX11_scoreOf 21 = .ok (.aload_n 0, 1) := by decide +kernel
theorem dX11_scoreOf_22 : decode cX11_scoreOf 22 = .ok (.iload_n 1, 1) := by decide +kernel
theorem dX11_scoreOf_23 : decode cX11_scoreOf 23 = .ok (.iload_n 2, 1) := by decide +kernel
theorem dX11_scoreOf_24 : decode cX11_scoreOf 24 = .ok (.invokevirtual 336, 3) := by decide +kernel
theorem dX11_scoreOf_27 : decode cX11_scoreOf 27 = .ok (.iadd, 1) := by decide +kernel
theorem dX11_scoreOf_28 : decode cX11_scoreOf 28 = .ok (.istore_n 3, 1) := by decide +kernel
theorem dX11_scoreOf_29 : decode cX11_scoreOf 29 = .ok (.iinc 4 1, 3) := by decide +kernel
theorem dX11_scoreOf_32 : decode cX11_scoreOf 32 = .ok (.goto (-27), 3) := by decide +kernel
theorem dX11_scoreOf_35 : decode cX11_scoreOf 35 = .ok (.iload_n 3, 1) := by decide +kernel
theorem dX11_scoreOf_36 : decode cX11_scoreOf 36 = .ok (.ireturn, 1) := by decide +kernel
theorem dX11_layFive_0 : decode cX11_layFive 0 = .ok (.aload_n 0, 1) := by decide +kernel
theorem dX11_layFive_1 : decode cX11_layFive 1 = .ok (.iconst 0, 1) := by decide +kernel
theorem dX11_layFive_2 : decode cX11_layFive 2 = .ok (.putfield 339, 3) := by decide +kernel
theorem dX11_layFive_5 : decode cX11_layFive 5 = .ok (.iconst 0, 1) := by decide +kernel
theorem dX11_layFive_6 : decode cX11_layFive 6 = .ok (.istore_n 1, 1) := by decide +kernel
theorem dX11_layFive_7 : decode cX11_layFive 7 = .ok (.iload_n 1, 1) := by decide +kernel
theorem dX11_layFive_8 : decode cX11_layFive 8 = .ok (.aload_n 0, 1) := by decide +kernel
theorem dX11_layFive_9 : decode cX11_layFive 9 = .ok (.getfield 36, 3) := by decide +kernel
theorem dX11_layFive_12 : decode cX11_layFive 12 = .ok (.iconst 2, 1) := by decide +kernel
theorem dX11_layFive_13 : decode cX11_layFive 13 = .ok (.iaload, 1) := by decide +kernel
theorem dX11_layFive_14 : decode cX11_layFive 14 = .ok (.if_icmp .gt 138, 3) := by decide +kernel
theorem dX11_layFive_17 : decode cX11_layFive 17 = .ok (.iconst 0, 1) := by decide +kernel
theorem dX11_layFive_18 : decode cX11_layFive 18 = .ok (.istore_n 2, 1) := by decide +kernel
theorem dX11_layFive_19 : decode cX11_layFive 19 = .ok (.iload_n 2, 1) := by decide +kernel
theorem dX11_layFive_20 : decode cX11_layFive 20 = .ok (.iload_n 1, 1) := by decide +kernel
theorem dX11_layFive_21 : decode cX11_layFive 21 = .ok (.if_icmp .gt 125, 3) := by decide +kernel
theorem dX11_layFive_24 : decode cX11_layFive 24 = .ok (.aload_n 0, 1) := by decide +kernel
theorem dX11_layFive_25 : decode cX11_layFive 25 = .ok (.iload_n 1, 1) := by decide +kernel
theorem dX11_layFive_26 : decode cX11_layFive 26 = .ok (.iload_n 2, 1) := by decide +kernel
theorem dX11_layFive_27 : decode cX11_layFive 27 = .ok (.invokevirtual 342, 3) := by decide +kernel
theorem dX11_layFive_30 : decode cX11_layFive 30 = .ok (.istore_n 3, 1) := by decide +kernel
theorem dX11_layFive_31 : decode cX11_layFive 31 = .ok (.aload_n 0, 1) := by decide +kernel
theorem dX11_layFive_32 : decode cX11_layFive 32 = .ok (.getfield 339, 3) := by decide +kernel
theorem dX11_layFive_35 : decode cX11_layFive 35 = .ok (.istore 4, 2) := by decide +kernel
theorem dX11_layFive_37 : decode cX11_layFive 37 = .ok (.iload 4, 2) := by decide +kernel
theorem dX11_layFive_39 : decode cX11_layFive 39 = .ok (.ifCond .le 60, 3) := by decide +kernel
theorem dX11_layFive_42 : decode cX11_layFive 42 = .ok (.aload_n 0, 1) := by decide +kernel
theorem dX11_layFive_43 : decode cX11_layFive 43 = .ok (.getfield 57, 3) := by decide +kernel
theorem dX11_layFive_46 : decode cX11_layFive 46 = .ok (.iload 4, 2) := by decide +kernel
theorem dX11_layFive_48 : decode cX11_layFive 48 = .ok (.iconst 1, 1) := by decide +kernel
theorem dX11_layFive_49 : decode cX11_layFive 49 = .ok (.isub, 1) := by decide +kernel
theorem dX11_layFive_50 : decode cX11_layFive 50 = .ok (.iaload, 1) := by decide +kernel
theorem dX11_layFive_51 : decode cX11_layFive 51 = .ok (.iload_n 3, 1) := by decide +kernel
theorem dX11_layFive_52 : decode cX11_layFive 52 = .ok (.if_icmp .le 47, 3) := by decide +kernel
theorem dX11_layFive_55 : decode cX11_layFive 55 = .ok (.iload 4, 2) := by decide +kernel
theorem dX11_layFive_57 : decode cX11_layFive 57 = .ok (.iconst 5, 1) := by decide +kernel
theorem dX11_layFive_58 : decode cX11_layFive 58 = .ok (.if_icmp .ge 35, 3) := by decide +kernel
theorem dX11_layFive_61 : decode cX11_layFive 61 = .ok (.aload_n 0, 1) := by decide +kernel
theorem dX11_layFive_62 : decode cX11_layFive 62 = .ok (.getfield 57, 3) := by decide +kernel
theorem dX11_layFive_65 : decode cX11_layFive 65 = .ok (.iload 4, 2) := by decide +kernel
theorem dX11_layFive_67 : decode cX11_layFive 67 = .ok (.aload_n 0, 1) := by decide +kernel
theorem dX11_layFive_68 : decode cX11_layFive 68 = .ok (.getfield 57, 3) := by decide +kernel
theorem dX11_layFive_71 : decode cX11_layFive 71 = .ok (.iload 4, 2) := by decide +kernel
theorem dX11_layFive_73 : decode cX11_layFive 73 = .ok (.iconst 1, 1) := by decide +kernel
theorem dX11_layFive_74 : decode cX11_layFive 74 = .ok (.isub, 1) := by decide +kernel
theorem dX11_layFive_75 : decode cX11_layFive 75 = .ok (.iaload, 1) := by decide +kernel
theorem dX11_layFive_76 : decode cX11_layFive 76 = .ok (.iastore, 1) := by decide +kernel
theorem dX11_layFive_77 : decode cX11_layFive 77 = .ok (.aload_n 0, 1) := by decide +kernel
theorem dX11_layFive_78 : decode cX11_layFive 78 = .ok (.getfield 54, 3) := by decide +kernel
theorem dX11_layFive_81 : decode cX11_layFive 81 = .ok (.iload 4, 2) := by decide +kernel
theorem dX11_layFive_83 : decode cX11_layFive 83 = .ok (.aload_n 0, 1) := by decide +kernel
theorem dX11_layFive_84 : decode cX11_layFive 84 = .ok (.getfield 54, 3) := by decide +kernel
theorem dX11_layFive_87 : decode cX11_layFive 87 = .ok (.iload 4, 2) := by decide +kernel
theorem dX11_layFive_89 : decode cX11_layFive 89 = .ok (.iconst 1, 1) := by decide +kernel
theorem dX11_layFive_90 : decode cX11_layFive 90 = .ok (.isub, 1) := by decide +kernel
theorem dX11_layFive_91 : decode cX11_layFive 91 = .ok (.iaload, 1) := by decide +kernel
theorem dX11_layFive_92 : decode cX11_layFive 92 = .ok (.iastore, 1) := by decide +kernel
theorem dX11_layFive_93 : decode cX11_layFive 93 = .ok (.iinc 4 (-1), 3) := by decide +kernel
theorem dX11_layFive_96 : decode cX11_layFive 96 = .ok (.goto (-59), 3) := by decide +kernel
theorem dX11_layFive_99 : decode cX11_layFive 99 = .ok (.iload 4, 2) := by decide +kernel
theorem dX11_layFive_101 : decode cX11_layFive 101 = .ok (.iconst 5, 1) := by decide +kernel
theorem dX11_layFive_102 : decode cX11_layFive 102 = .ok (.if_icmp .ge 38, 3) := by decide +kernel
theorem dX11_layFive_105 : decode cX11_layFive 105 = .ok (.aload_n 0, 1) := by decide +kernel
theorem dX11_layFive_106 : decode cX11_layFive 106 = .ok (.getfield 57, 3) := by decide +kernel
theorem dX11_layFive_109 : decode cX11_layFive 109 = .ok (.iload 4, 2) := by decide +kernel
theorem dX11_layFive_111 : decode cX11_layFive 111 = .ok (.iload_n 3, 1) := by decide +kernel
theorem dX11_layFive_112 : decode cX11_layFive 112 = .ok (.iastore, 1) := by decide +kernel
theorem dX11_layFive_113 : decode cX11_layFive 113 = .ok (.aload_n 0, 1) := by decide +kernel
theorem dX11_layFive_114 : decode cX11_layFive 114 = .ok (.getfield 54, 3) := by decide +kernel
theorem dX11_layFive_117 : decode cX11_layFive 117 = .ok (.iload 4, 2) := by decide +kernel
theorem dX11_layFive_119 : decode cX11_layFive 119 = .ok (.bipush 16, 2) := by decide +kernel
theorem dX11_layFive_121 : decode cX11_layFive 121 = .ok (.iload_n 1, 1) := by decide +kernel
theorem dX11_layFive_122 : decode cX11_layFive 122 = .ok (.imul, 1) := by decide +kernel
theorem dX11_layFive_123 : decode cX11_layFive 123 = .ok (.iload_n 2, 1) := by decide +kernel
theorem dX11_layFive_124 : decode cX11_layFive 124 = .ok (.iadd, 1) := by decide +kernel
theorem dX11_layFive_125 : decode cX11_layFive 125 = .ok (.iastore, 1) := by decide +kernel
theorem dX11_layFive_126 : decode cX11_layFive 126 = .ok (.aload_n 0, 1) := by decide +kernel
theorem dX11_layFive_127 : decode cX11_layFive 127 = .ok (.iconst 5, 1) := by decide +kernel
theorem dX11_layFive_128 : decode cX11_layFive 128 = .ok (.aload_n 0, 1) := by decide +kernel
theorem dX11_layFive_129 : decode cX11_layFive 129 = .ok (.getfield 339, 3) := by decide +kernel
theorem dX11_layFive_132 : decode cX11_layFive 132 = .ok (.iconst 1, 1) := by decide +kernel
theorem dX11_layFive_133 : decode cX11_layFive 133 = .ok (.iadd, 1) := by decide +kernel
theorem dX11_layFive_134 : decode cX11_layFive 134 = .ok (.invokestatic 278, 3) := by decide +kernel
theorem dX11_layFive_137 : decode cX11_layFive 137 = .ok (.putfield 339, 3) := by decide +kernel
theorem dX11_layFive_140 : decode cX11_layFive 140 = .ok (.iinc 2 1, 3) := by decide +kernel
theorem dX11_layFive_143 : decode cX11_layFive 143 = .ok (.goto (-124), 3) := by decide +kernel
theorem dX11_layFive_146 : decode cX11_layFive 146 = .ok (.iinc 1 1, 3) := by decide +kernel
theorem dX11_layFive_149 : decode cX11_layFive 149 = .ok (.goto (-142), 3) := by decide +kernel
theorem dX11_layFive_152 : decode cX11_layFive 152 = .ok (.return_, 1) := by decide +kernel
theorem dX11_pairOf_0 : decode cX11_pairOf 0 = .ok (.aload_n 0, 1) := by decide +kernel
theorem dX11_pairOf_1 : decode cX11_pairOf 1 = .ok (.iload_n 1, 1) := by decide +kernel
theorem dX11_pairOf_2 : decode cX11_pairOf 2 = .ok (.invokevirtual 332, 3) := by decide +kernel
theorem dX11_pairOf_5 : decode cX11_pairOf 5 = .ok (.iconst (-1), 1) := by decide +kernel
theorem dX11_pairOf_6 : decode cX11_pairOf 6 = .ok (.istore_n 2, 1) := by decide +kernel
theorem dX11_pairOf_7 : decode cX11_pairOf 7 = .ok (.iconst 0, 1) := by decide +kernel
theorem dX11_pairOf_8 : decode cX11_pairOf 8 = .ok (.istore_n 3, 1) := by decide +kernel
theorem dX11_pairOf_9 : decode cX11_pairOf 9 = .ok (.iconst 0, 1) := by decide +kernel
theorem dX11_pairOf_10 : decode cX11_pairOf 10 = .ok (.istore 4, 2) := by decide +kernel
theorem dX11_pairOf_12 : decode cX11_pairOf 12 = .ok (.iload 4, 2) := by decide +kernel
theorem dX11_pairOf_14 : decode cX11_pairOf 14 = .ok (.aload_n 0, 1) := by decide +kernel
theorem dX11_pairOf_15 : decode cX11_pairOf 15 = .ok (.getfield 339, 3) := by decide +kernel
theorem dX11_pairOf_18 : decode cX11_pairOf 18 = .ok (.if_icmp .ge 57, 3) := by decide +kernel
theorem dX11_pairOf_21 : decode cX11_pairOf 21 = .ok (.aload_n 0, 1) := by decide +kernel
theorem dX11_pairOf_22 : decode cX11_pairOf 22 = .ok (.aload_n 0, 1) := by decide +kernel
theorem dX11_pairOf_23 : decode cX11_pairOf 23 = .ok (.getfield 54, 3) := by decide +kernel
theorem dX11_pairOf_26 : decode cX11_pairOf 26 = .ok (.iload 4, 2) := by decide +kernel
theorem dX11_pairOf_28 : decode cX11_pairOf 28 = .ok (.iaload, 1) := by decide +kernel
theorem dX11_pairOf_29 : decode cX11_pairOf 29 = .ok (.bipush 16, 2) := by decide +kernel
theorem dX11_pairOf_31 : decode cX11_pairOf 31 = .ok (.idiv, 1) := by decide +kernel
theorem dX11_pairOf_32 : decode cX11_pairOf 32 = .ok (.aload_n 0, 1) := by decide +kernel
theorem dX11_pairOf_33 : decode cX11_pairOf 33 = .ok (.getfield 54, 3) := by decide +kernel
theorem dX11_pairOf_36 : decode cX11_pairOf 36 = .ok (.iload 4, 2) := by decide +kernel
theorem dX11_pairOf_38 : decode cX11_pairOf 38 = .ok (.iaload, 1) := by decide +kernel
theorem dX11_pairOf_39 : decode cX11_pairOf 39 = .ok (.bipush 16, 2) := by decide +kernel
theorem dX11_pairOf_41 : decode cX11_pairOf 41 = .ok (.irem, 1) := by decide +kernel
theorem dX11_pairOf_42 : decode cX11_pairOf 42 = .ok (.invokevirtual 336, 3) := by decide +kernel
theorem dX11_pairOf_45 : decode cX11_pairOf 45 = .ok (.istore 5, 2) := by decide +kernel
theorem dX11_pairOf_47 : decode cX11_pairOf 47 = .ok (.iload_n 2, 1) := by decide +kernel
theorem dX11_pairOf_48 : decode cX11_pairOf 48 = .ok (.iconst (-1), 1) := by decide +kernel
theorem dX11_pairOf_49 : decode cX11_pairOf 49 = .ok (.if_icmp .eq 9, 3) := by decide +kernel
theorem dX11_pairOf_52 : decode cX11_pairOf 52 = .ok (.iload 5, 2) := by decide +kernel
theorem dX11_pairOf_54 : decode cX11_pairOf 54 = .ok (.iload_n 3, 1) := by decide +kernel
theorem dX11_pairOf_55 : decode cX11_pairOf 55 = .ok (.if_icmp .ge 14, 3) := by decide +kernel
theorem dX11_pairOf_58 : decode cX11_pairOf 58 = .ok (.aload_n 0, 1) := by decide +kernel
theorem dX11_pairOf_59 : decode cX11_pairOf 59 = .ok (.getfield 54, 3) := by decide +kernel
theorem dX11_pairOf_62 : decode cX11_pairOf 62 = .ok (.iload 4, 2) := by decide +kernel
theorem dX11_pairOf_64 : decode cX11_pairOf 64 = .ok (.iaload, 1) := by decide +kernel
theorem dX11_pairOf_65 : decode cX11_pairOf 65 = .ok (.istore_n 2, 1) := by decide +kernel
theorem dX11_pairOf_66 : decode cX11_pairOf 66 = .ok (.iload 5, 2) := by decide +kernel
theorem dX11_pairOf_68 : decode cX11_pairOf 68 = .ok (.istore_n 3, 1) := by decide +kernel
theorem dX11_pairOf_69 : decode cX11_pairOf 69 = .ok (.iinc 4 1, 3) := by decide +kernel
theorem dX11_pairOf_72 : decode cX11_pairOf 72 = .ok (.goto (-60), 3) := by decide +kernel
theorem dX11_pairOf_75 : decode cX11_pairOf 75 = .ok (.iload_n 2, 1) := by decide +kernel
theorem dX11_pairOf_76 : decode cX11_pairOf 76 = .ok (.ireturn, 1) := by decide +kernel
theorem dX11_layForm_0 : decode cX11_layForm 0 = .ok (.aload_n 0, 1) := by decide +kernel
theorem dX11_layForm_1 : decode cX11_layForm 1 = .ok (.aload_n 0, 1) := by decide +kernel
theorem dX11_layForm_2 : decode cX11_layForm 2 = .ok (.iload_n 1, 1) := by decide +kernel
theorem dX11_layForm_3 : decode cX11_layForm 3 = .ok (.invokevirtual 345, 3) := by decide +kernel
theorem dX11_layForm_6 : decode cX11_layForm 6 = .ok (.putfield 348, 3) := by decide +kernel
theorem dX11_layForm_9 : decode cX11_layForm 9 = .ok (.aload_n 0, 1) := by decide +kernel
theorem dX11_layForm_10 : decode cX11_layForm 10 = .ok (.iload_n 1, 1) := by decide +kernel
theorem dX11_layForm_11 : decode cX11_layForm 11 = .ok (.invokevirtual 351, 3) := by decide +kernel
theorem dX11_layForm_14 : decode cX11_layForm 14 = .ok (.aload_n 0, 1) := by decide +kernel
theorem dX11_layForm_15 : decode cX11_layForm 15 = .ok (.aload_n 0, 1) := by decide +kernel
theorem dX11_layForm_16 : decode cX11_layForm 16 = .ok (.invokevirtual 354, 3) := by decide +kernel
theorem dX11_layForm_19 : decode cX11_layForm 19 = .ok (.putfield 357, 3) := by decide +kernel
theorem dX11_layForm_22 : decode cX11_layForm 22 = .ok (.aload_n 0, 1) := by decide +kernel
theorem dX11_layForm_23 : decode cX11_layForm 23 = .ok (.iconst 0, 1) := by decide +kernel
theorem dX11_layForm_24 : decode cX11_layForm 24 = .ok (.putfield 360, 3) := by decide +kernel
theorem dX11_layForm_27 : decode cX11_layForm 27 = .ok (.aload_n 0, 1) := by decide +kernel
theorem dX11_layForm_28 : decode cX11_layForm 28 = .ok (.aload_n 0, 1) := by decide +kernel
theorem dX11_layForm_29 : decode cX11_layForm 29 = .ok (.invokevirtual 363, 3) := by decide +kernel
theorem dX11_layForm_32 : decode cX11_layForm 32 = .ok (.putfield 366, 3) := by decide +kernel
theorem dX11_layForm_35 : decode cX11_layForm 35 = .ok (.aload_n 0, 1) := by decide +kernel
theorem dX11_layForm_36 : decode cX11_layForm 36 = .ok (.aload_n 0, 1) := by decide +kernel
theorem dX11_layForm_37 : decode cX11_layForm 37 = .ok (.getfield 348, 3) := by decide +kernel
theorem dX11_layForm_40 : decode cX11_layForm 40 = .ok (.bipush 16, 2) := by decide +kernel
theorem dX11_layForm_42 : decode cX11_layForm 42 = .ok (.idiv, 1) := by decide +kernel
theorem dX11_layForm_43 : decode cX11_layForm 43 = .ok (.aload_n 0, 1) := by decide +kernel
theorem dX11_layForm_44 : decode cX11_layForm 44 = .ok (.getfield 348, 3) := by decide +kernel
theorem dX11_layForm_47 : decode cX11_layForm 47 = .ok (.bipush 16, 2) := by decide +kernel
theorem dX11_layForm_49 : decode cX11_layForm 49 = .ok (.irem, 1) := by decide +kernel
theorem dX11_layForm_50 : decode cX11_layForm 50 = .ok (.invokevirtual 336, 3) := by decide +kernel
theorem dX11_layForm_53 : decode cX11_layForm 53 = .ok (.istore_n 2, 1) := by decide +kernel
theorem dX11_layForm_54 : decode cX11_layForm 54 = .ok (.iload_n 2, 1) := by decide +kernel
theorem dX11_layForm_55 : decode cX11_layForm 55 = .ok (.aload_n 0, 1) := by decide +kernel
theorem dX11_layForm_56 : decode cX11_layForm 56 = .ok (.getfield 366, 3) := by decide +kernel
theorem dX11_layForm_59 : decode cX11_layForm 59 = .ok (.if_icmp .ge 13, 3) := by decide +kernel
theorem dX11_layForm_62 : decode cX11_layForm 62 = .ok (.aload_n 0, 1) := by decide +kernel
theorem dX11_layForm_63 : decode cX11_layForm 63 = .ok (.iconst 1, 1) := by decide +kernel
theorem dX11_layForm_64 : decode cX11_layForm 64 = .ok (.putfield 360, 3) := by decide +kernel
theorem dX11_layForm_67 : decode cX11_layForm 67 = .ok (.aload_n 0, 1) := by decide +kernel
theorem dX11_layForm_68 : decode cX11_layForm 68 = .ok (.iload_n 2, 1) := by decide +kernel
theorem dX11_layForm_69 : decode cX11_layForm 69 = .ok (.putfield 366, 3) := by decide +kernel
theorem dX11_layForm_72 : decode cX11_layForm 72 = .ok (.aload_n 0, 1) := by decide +kernel
theorem dX11_layForm_73 : decode cX11_layForm 73 = .ok (.getfield 357, 3) := by decide +kernel
theorem dX11_layForm_76 : decode cX11_layForm 76 = .ok (.aload_n 0, 1) := by decide +kernel
theorem dX11_layForm_77 : decode cX11_layForm 77 = .ok (.getfield 366, 3) := by decide +kernel
theorem dX11_layForm_80 : decode cX11_layForm 80 = .ok (.if_icmp .ge 16, 3) := by decide +kernel
theorem dX11_layForm_83 : decode cX11_layForm 83 = .ok (.aload_n 0, 1) := by decide +kernel
theorem dX11_layForm_84 : decode cX11_layForm 84 = .ok (.iconst 2, 1) := by decide +kernel
theorem dX11_layForm_85 : decode cX11_layForm 85 = .ok (.putfield 360, 3) := by decide +kernel
theorem dX11_layForm_88 : decode cX11_layForm 88 = .ok (.aload_n 0, 1) := by decide +kernel
theorem dX11_layForm_89 : decode cX11_layForm 89 = .ok (.aload_n 0, 1) := by decide +kernel
theorem dX11_layForm_90 : decode cX11_layForm 90 = .ok (.getfield 357, 3) := by decide +kernel
theorem dX11_layForm_93 : decode cX11_layForm 93 = .ok (.putfield 366, 3) := by decide +kernel
theorem dX11_layForm_96 : decode cX11_layForm 96 = .ok (.aload_n 0, 1) := by decide +kernel
theorem dX11_layForm_97 : decode cX11_layForm 97 = .ok (.getfield 360, 3) := by decide +kernel
theorem dX11_layForm_100 : decode cX11_layForm 100 = .ok (.iconst 2, 1) := by decide +kernel
theorem dX11_layForm_101 : decode cX11_layForm 101 = .ok (.if_icmp .ne 10, 3) := by decide +kernel
theorem dX11_layForm_104 : decode cX11_layForm 104 = .ok (.aload_n 0, 1) := by decide +kernel
theorem dX11_layForm_105 : decode cX11_layForm 105 = .ok (.invokevirtual 326, 3) := by decide +kernel
theorem dX11_layForm_108 : decode cX11_layForm 108 = .ok (.goto 15, 3) := by decide +kernel
theorem dX11_layForm_111 : decode cX11_layForm 111 = .ok (.aload_n 0, 1) := by decide +kernel
theorem dX11_layForm_112 : decode cX11_layForm 112 = .ok (.getfield 360, 3) := by decide +kernel
theorem dX11_layForm_115 : decode cX11_layForm 115 = .ok (.ifCond .ne 8, 3) := by decide +kernel
theorem dX11_layForm_118 : decode cX11_layForm 118 = .ok (.aload_n 0, 1) := by decide +kernel
theorem dX11_layForm_119 : decode cX11_layForm 119 = .ok (.iconst 0, 1) := by decide +kernel
theorem dX11_layForm_120 : decode cX11_layForm 120 = .ok (.putfield 289, 3) := by decide +kernel
theorem dX11_layForm_123 : decode cX11_layForm 123 = .ok (.return_, 1) := by decide +kernel
theorem dX11_costOfAll_0 : decode cX11_costOfAll 0 = .ok (.aload_n 0, 1) := by decide +kernel
theorem dX11_costOfAll_1 : decode cX11_costOfAll 1 = .ok (.invokevirtual 369, 3) := by decide +kernel
theorem dX11_costOfAll_4 : decode cX11_costOfAll 4 = .ok (.iconst 0, 1) := by decide +kernel
theorem dX11_costOfAll_5 : decode cX11_costOfAll 5 = .ok (.istore_n 1, 1) := by decide +kernel
theorem dX11_costOfAll_6 : decode cX11_costOfAll 6 = .ok (.iconst 0, 1) := by decide +kernel
theorem dX11_costOfAll_7 : decode cX11_costOfAll 7 = .ok (.istore_n 2, 1) := by decide +kernel
theorem dX11_costOfAll_8 : decode cX11_costOfAll 8 = .ok (.iload_n 2, 1) := by decide +kernel
theorem dX11_costOfAll_9 : decode cX11_costOfAll 9 = .ok (.aload_n 0, 1) := by decide +kernel
theorem dX11_costOfAll_10 : decode cX11_costOfAll 10 = .ok (.invokevirtual 329, 3) := by decide +kernel
theorem dX11_costOfAll_13 : decode cX11_costOfAll 13 = .ok (.if_icmp .ge 21, 3) := by decide +kernel
theorem dX11_costOfAll_16 : decode cX11_costOfAll 16 = .ok (.aload_n 0, 1) := by decide +kernel
theorem dX11_costOfAll_17 : decode cX11_costOfAll 17 = .ok (.iload_n 2, 1) := by decide +kernel
theorem dX11_costOfAll_18 : decode cX11_costOfAll 18 = .ok (.invokevirtual 372, 3) := by decide +kernel
theorem dX11_costOfAll_21 : decode cX11_costOfAll 21 = .ok (.iload_n 1, 1) := by decide +kernel
theorem dX11_costOfAll_22 : decode cX11_costOfAll 22 = .ok (.aload_n 0, 1) := by decide +kernel
theorem dX11_costOfAll_23 : decode cX11_costOfAll 23 = .ok (.getfield 366, 3) := by decide +kernel
theorem dX11_costOfAll_26 : decode cX11_costOfAll 26 = .ok (.iadd, 1) := by decide +kernel
theorem dX11_costOfAll_27 : decode cX11_costOfAll 27 = .ok (.istore_n 1, 1) := by decide +kernel
theorem dX11_costOfAll_28 : decode cX11_costOfAll 28 = .ok (.iinc 2 1, 3) := by decide +kernel
theorem dX11_costOfAll_31 : decode cX11_costOfAll 31 = .ok (.goto (-23), 3) := by decide +kernel
theorem dX11_costOfAll_34 : decode cX11_costOfAll 34 = .ok (.iload_n 1, 1) := by decide +kernel
theorem dX11_costOfAll_35 : decode cX11_costOfAll 35 = .ok (.ireturn, 1) := by decide +kernel
theorem dX11_rule_0 : decode cX11_rule 0 = .ok (.aload_n 0, 1) := by decide +kernel
theorem dX11_rule_1 : decode cX11_rule 1 = .ok (.getfield 238, 3) := by decide +kernel
theorem dX11_rule_4 : decode cX11_rule 4 = .ok (.ifCond .eq 21, 3) := by decide +kernel
theorem dX11_rule_7 : decode cX11_rule 7 = .ok (.iload_n 1, 1) := by decide +kernel
theorem dX11_rule_8 : decode cX11_rule 8 = .ok (.iconst 0, 1) := by decide +kernel
theorem dX11_rule_9 : decode cX11_rule 9 = .ok (.iconst 4, 1) := by decide +kernel
theorem dX11_rule_10 : decode cX11_rule 10 = .ok (.invokestatic 99, 3) := by decide +kernel
theorem dX11_rule_13 : decode cX11_rule 13 = .ok (.ifCond .eq 12, 3) := by decide +kernel
theorem dX11_rule_16 : decode cX11_rule 16 = .ok (.aload_n 0, 1) := by decide +kernel
theorem dX11_rule_17 : decode cX11_rule 17 = .ok (.getfield 36, 3) := by decide +kernel
theorem dX11_rule_20 : decode cX11_rule 20 = .ok (.iload_n 1, 1) := by decide +kernel
theorem dX11_rule_21 : decode cX11_rule 21 = .ok (.iaload, 1) := by decide +kernel
theorem dX11_rule_22 : decode cX11_rule 22 = .ok (.goto 4, 3) := by decide +kernel
theorem dX11_rule_25 : decode cX11_rule 25 = .ok (.iconst (-1), 1) := by decide +kernel
theorem dX11_rule_26 : decode cX11_rule 26 = .ok (.ireturn, 1) := by decide +kernel
theorem dX11_isPlace_0 : decode cX11_isPlace 0 = .ok (.aload_n 0, 1) := by decide +kernel
theorem dX11_isPlace_1 : decode cX11_isPlace 1 = .ok (.getfield 238, 3) := by decide +kernel
theorem dX11_isPlace_4 : decode cX11_isPlace 4 = .ok (.ifCond .eq 21, 3) := by decide +kernel
theorem dX11_isPlace_7 : decode cX11_isPlace 7 = .ok (.iload_n 1, 1) := by decide +kernel
theorem dX11_isPlace_8 : decode cX11_isPlace 8 = .ok (.iconst 0, 1) := by decide +kernel
theorem dX11_isPlace_9 : decode cX11_isPlace 9 = .ok (.aload_n 0, 1) := by decide +kernel
theorem dX11_isPlace_10 : decode cX11_isPlace 10 = .ok (.getfield 242, 3) := by decide +kernel
theorem dX11_isPlace_13 : decode cX11_isPlace 13 = .ok (.iconst 1, 1) := by decide +kernel
theorem dX11_isPlace_14 : decode cX11_isPlace 14 = .ok (.isub, 1) := by decide +kernel
theorem dX11_isPlace_15 : decode cX11_isPlace 15 = .ok (.invokestatic 99, 3) := by decide +kernel
theorem dX11_isPlace_18 : decode cX11_isPlace 18 = .ok (.ifCond .eq 7, 3) := by decide +kernel
theorem dX11_isPlace_21 : decode cX11_isPlace 21 = .ok (.iconst 1, 1) := by decide +kernel
theorem dX11_isPlace_22 : decode cX11_isPlace 22 = .ok (.goto 4, 3) := by decide +kernel
theorem dX11_isPlace_25 : decode cX11_isPlace 25 = .ok (.iconst 0, 1) := by decide +kernel
theorem dX11_isPlace_26 : decode cX11_isPlace 26 = .ok (.ireturn, 1) := by decide +kernel
theorem dX11_value_0 : decode cX11_value 0 = .ok (.aload_n 0, 1) := by decide +kernel
theorem dX11_value_1 : decode cX11_value 1 = .ok (.aload_n 0, 1) := by decide +kernel
theorem dX11_value_2 : decode cX11_value 2 = .ok (.iload_n 1, 1) := by decide +kernel
theorem dX11_value_3 : decode cX11_value 3 = .ok (.invokevirtual 375, 3) := by decide +kernel
theorem dX11_value_6 : decode cX11_value 6 = .ok (.ifCond .eq 7, 3) := by decide +kernel
theorem dX11_value_9 : decode cX11_value 9 = .ok (.iconst 0, 1) := by decide +kernel
theorem dX11_value_10 : decode cX11_value 10 = .ok (.goto 4, 3) := by decide +kernel
theorem dX11_value_13 : decode cX11_value 13 = .ok (.iconst 1, 1) := by decide +kernel
theorem dX11_value_14 : decode cX11_value 14 = .ok (.putfield 92, 3) := by decide +kernel
theorem dX11_value_17 : decode cX11_value 17 = .ok (.aload_n 0, 1) := by decide +kernel
theorem dX11_value_18 : decode cX11_value 18 = .ok (.getfield 92, 3) := by decide +kernel
theorem dX11_value_21 : decode cX11_value 21 = .ok (.iconst 1, 1) := by decide +kernel
theorem dX11_value_22 : decode cX11_value 22 = .ok (.if_icmp .ne 7, 3) := by decide +kernel
theorem dX11_value_25 : decode cX11_value 25 = .ok (.lconst 0, 1) := by decide +kernel
theorem dX11_value_26 : decode cX11_value 26 = .ok (.goto 9, 3) := by decide +kernel
theorem dX11_value_29 : decode cX11_value 29 = .ok (.aload_n 0, 1) := by decide +kernel
theorem dX11_value_30 : decode cX11_value 30 = .ok (.getfield 33, 3) := by decide +kernel
theorem dX11_value_33 : decode cX11_value 33 = .ok (.iload_n 1, 1) := by decide +kernel
theorem dX11_value_34 : decode cX11_value 34 = .ok (.laload, 1) := by decide +kernel
theorem dX11_value_35 : decode cX11_value 35 = .ok (.lreturn, 1) := by decide +kernel
theorem dX11_placesOf_0 : decode cX11_placesOf 0 = .ok (.iconst 0, 1) := by decide +kernel
theorem dX11_placesOf_1 : decode cX11_placesOf 1 = .ok (.istore_n 3, 1) := by decide +kernel
theorem dX11_placesOf_2 : decode cX11_placesOf 2 = .ok (.iload_n 3, 1) := by decide +kernel
theorem dX11_placesOf_3 : decode cX11_placesOf 3 = .ok (.aload_n 0, 1) := by decide +kernel
theorem dX11_placesOf_4 : decode cX11_placesOf 4 = .ok (.getfield 36, 3) := by decide +kernel
theorem dX11_placesOf_7 : decode cX11_placesOf 7 = .ok (.iconst 2, 1) := by decide +kernel
theorem dX11_placesOf_8 : decode cX11_placesOf 8 = .ok (.iaload, 1) := by decide +kernel
theorem dX11_placesOf_9 : decode cX11_placesOf 9 = .ok (.if_icmp .gt 37, 3) := by decide +kernel
theorem dX11_placesOf_12 : decode cX11_placesOf 12 = .ok (.iconst 0, 1) := by decide +kernel
theorem dX11_placesOf_13 : decode cX11_placesOf 13 = .ok (.istore 4, 2) := by decide +kernel
theorem dX11_placesOf_15 : decode cX11_placesOf 15 = .ok (.iload 4, 2) := by decide +kernel
theorem dX11_placesOf_17 : decode cX11_placesOf 17 = .ok (.iload_n 3, 1) := by decide +kernel
theorem dX11_placesOf_18 : decode cX11_placesOf 18 = .ok (.if_icmp .gt 22, 3) := by decide +kernel
theorem dX11_placesOf_21 : decode cX11_placesOf 21 = .ok (.aload_n 0, 1) := by decide +kernel
theorem dX11_placesOf_22 : decode cX11_placesOf 22 = .ok (.lload_n 1, 1) := by decide +kernel
theorem dX11_placesOf_23 : decode cX11_placesOf 23 = .ok (.iload_n 3, 1) := by decide +kernel
theorem dX11_placesOf_24 : decode cX11_placesOf 24 = .ok (.iload 4, 2) := by decide +kernel
theorem dX11_placesOf_26 : decode cX11_placesOf 26 = .ok (.invokevirtual 378, 3) := by decide +kernel
theorem dX11_placesOf_29 : decode cX11_placesOf 29 = .ok (.ifCond .eq 5, 3) := by decide +kernel
theorem dX11_placesOf_32 : decode cX11_placesOf 32 = .ok (.iload_n 3, 1) := by decide +kernel
theorem dX11_placesOf_33 : decode cX11_placesOf 33 = .ok (.ireturn, 1) := by decide +kernel
theorem dX11_placesOf_34 : decode cX11_placesOf 34 = .ok (.iinc 4 1, 3) := by decide +kernel
theorem dX11_placesOf_37 : decode cX11_placesOf 37 = .ok (.goto (-22), 3) := by decide +kernel
theorem dX11_placesOf_40 : decode cX11_placesOf 40 = .ok (.iinc 3 1, 3) := by decide +kernel
theorem dX11_placesOf_43 : decode cX11_placesOf 43 = .ok (.goto (-41), 3) := by decide +kernel
theorem dX11_placesOf_46 : decode cX11_placesOf 46 = .ok (.iconst (-1), 1) := by decide +kernel
theorem dX11_placesOf_47 : decode cX11_placesOf 47 = .ok (.ireturn, 1) := by decide +kernel
theorem dX11_waysOf_0 : decode cX11_waysOf 0 = .ok (.iconst 0, 1) := by decide +kernel
theorem dX11_waysOf_1 : decode cX11_waysOf 1 = .ok (.istore_n 3, 1) := by decide +kernel
theorem dX11_waysOf_2 : decode cX11_waysOf 2 = .ok (.iconst 0, 1) := by decide +kernel
theorem dX11_waysOf_3 : decode cX11_waysOf 3 = .ok (.istore 4, 2) := by decide +kernel
theorem dX11_waysOf_5 : decode cX11_waysOf 5 = .ok (.iload 4, 2) := by decide +kernel
theorem dX11_waysOf_7 : decode cX11_waysOf 7 = .ok (.aload_n 0, 1) := by decide +kernel
theorem dX11_waysOf_8 : decode cX11_waysOf 8 = .ok (.getfield 36, 3) := by decide +kernel
theorem dX11_waysOf_11 : decode cX11_waysOf 11 = .ok (.iconst 2, 1) := by decide +kernel
theorem dX11_waysOf_12 : decode cX11_waysOf 12 = .ok (.iaload, 1) := by decide +kernel
theorem dX11_waysOf_13 : decode cX11_waysOf 13 = .ok (.if_icmp .gt 45, 3) := by decide +kernel
theorem dX11_waysOf_16 : decode cX11_waysOf 16 = .ok (.iconst 0, 1) := by decide +kernel
theorem dX11_waysOf_17 : decode cX11_waysOf 17 = .ok (.istore 5, 2) := by decide +kernel
theorem dX11_waysOf_19 : decode cX11_waysOf 19 = .ok (.iload 5, 2) := by decide +kernel
theorem dX11_waysOf_21 : decode cX11_waysOf 21 = .ok (.iload 4, 2) := by decide +kernel
theorem dX11_waysOf_23 : decode cX11_waysOf 23 = .ok (.if_icmp .gt 29, 3) := by decide +kernel
theorem dX11_waysOf_26 : decode cX11_waysOf 26 = .ok (.iload_n 3, 1) := by decide +kernel
theorem dX11_waysOf_27 : decode cX11_waysOf 27 = .ok (.aload_n 0, 1) := by decide +kernel
theorem dX11_waysOf_28 : decode cX11_waysOf 28 = .ok (.lload_n 1, 1) := by decide +kernel
theorem dX11_waysOf_29 : decode cX11_waysOf 29 = .ok (.iload 4, 2) := by decide +kernel
theorem dX11_waysOf_31 : decode cX11_waysOf 31 = .ok (.iload 5, 2) := by decide +kernel
theorem dX11_waysOf_33 : decode cX11_waysOf 33 = .ok (.invokevirtual 378, 3) := by decide +kernel
theorem dX11_waysOf_36 : decode cX11_waysOf 36 = .ok (.ifCond .eq 7, 3) := by decide +kernel
theorem dX11_waysOf_39 : decode cX11_waysOf 39 = .ok (.iconst 1, 1) := by decide +kernel
theorem dX11_waysOf_40 : decode cX11_waysOf 40 = .ok (.goto 4, 3) := by decide +kernel
theorem dX11_waysOf_43 : decode cX11_waysOf 43 = .ok (.iconst 0, 1) := by decide +kernel
theorem dX11_waysOf_44 : decode cX11_waysOf 44 = .ok (.iadd, 1) := by decide +kernel
theorem dX11_waysOf_45 : decode cX11_waysOf 45 = .ok (.istore_n 3, 1) := by decide +kernel
theorem dX11_waysOf_46 : decode cX11_waysOf 46 = .ok (.iinc 5 1, 3) := by decide +kernel
theorem dX11_waysOf_49 : decode cX11_waysOf 49 = .ok (.goto (-30), 3) := by decide +kernel
theorem dX11_waysOf_52 : decode cX11_waysOf 52 = .ok (.iinc 4 1, 3) := by decide +kernel
theorem dX11_waysOf_55 : decode cX11_waysOf 55 = .ok (.goto (-50), 3) := by decide +kernel
theorem dX11_waysOf_58 : decode cX11_waysOf 58 = .ok (.iload_n 3, 1) := by decide +kernel
theorem dX11_waysOf_59 : decode cX11_waysOf 59 = .ok (.ireturn, 1) := by decide +kernel
theorem dX11_firstLike_0 : decode cX11_firstLike 0 = .ok (.iconst 0, 1) := by decide +kernel
theorem dX11_firstLike_1 : decode cX11_firstLike 1 = .ok (.istore_n 2, 1) := by decide +kernel
theorem dX11_firstLike_2 : decode cX11_firstLike 2 = .ok (.aload_n 0, 1) := by decide +kernel
theorem dX11_firstLike_3 : decode cX11_firstLike 3 = .ok (.getfield 33, 3) := by decide +kernel
theorem dX11_firstLike_6 : decode cX11_firstLike 6 = .ok (.iload_n 2, 1) := by decide +kernel
theorem dX11_firstLike_7 : decode cX11_firstLike 7 = .ok (.laload, 1) := by decide +kernel
theorem dX11_firstLike_8 : decode cX11_firstLike 8 = .ok (.aload_n 0, 1) := by decide +kernel
theorem dX11_firstLike_9 : decode cX11_firstLike 9 = .ok (.getfield 33, 3) := by decide +kernel
theorem dX11_firstLike_12 : decode cX11_firstLike 12 = .ok (.iload_n 1, 1) := by decide +kernel
theorem dX11_firstLike_13 : decode cX11_firstLike 13 = .ok (.laload, 1) := by decide +kernel
theorem dX11_firstLike_14 : decode cX11_firstLike 14 = .ok (.lcmp, 1) := by decide +kernel
theorem dX11_firstLike_15 : decode cX11_firstLike 15 = .ok (.ifCond .eq 9, 3) := by decide +kernel
theorem dX11_firstLike_18 : decode cX11_firstLike 18 = .ok (.iinc 2 1, 3) := by decide +kernel
theorem dX11_firstLike_21 : decode cX11_firstLike 21 = .ok (.goto (-19), 3) := by decide +kernel
theorem dX11_firstLike_24 : decode cX11_firstLike 24 = .ok (.iload_n 2, 1) := by decide +kernel
theorem dX11_firstLike_25 : decode cX11_firstLike 25 = .ok (.ireturn, 1) := by decide +kernel
theorem dX11_isOdd_0 : decode cX11_isOdd 0 = .ok (.aload_n 0, 1) := by decide +kernel
theorem dX11_isOdd_1 : decode cX11_isOdd 1 = .ok (.invokevirtual 369, 3) := by decide +kernel
theorem dX11_isOdd_4 : decode cX11_isOdd 4 = .ok (.aload_n 0, 1) := by decide +kernel
theorem dX11_isOdd_5 : decode cX11_isOdd 5 = .ok (.iload_n 1, 1) := by decide +kernel
theorem dX11_isOdd_6 : decode cX11_isOdd 6 = .ok (.aload_n 0, 1) := by decide +kernel
theorem dX11_isOdd_7 : decode cX11_isOdd 7 = .ok (.getfield 36, 3) := by decide +kernel
