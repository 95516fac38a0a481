theorem dX11_isOdd_10 : decode cX11_isOdd 10 = .ok (.iconst 0, 1) := by decide +kernel
theorem dX11_isOdd_11 : decode cX11_isOdd 11 = .ok (.iaload, 1) := by decide +kernel
theorem dX11_isOdd_12 : decode cX11_isOdd 12 = .ok (.idiv, 1) := by decide +kernel
theorem dX11_isOdd_13 : decode cX11_isOdd 13 = .ok (.invokevirtual 372, 3) := by decide +kernel
theorem dX11_isOdd_16 : decode cX11_isOdd 16 = .ok (.aload_n 0, 1) := by decide +kernel
theorem dX11_isOdd_17 : decode cX11_isOdd 17 = .ok (.getfield 289, 3) := by decide +kernel
theorem dX11_isOdd_20 : decode cX11_isOdd 20 = .ok (.iload_n 1, 1) := by decide +kernel
theorem dX11_isOdd_21 : decode cX11_isOdd 21 = .ok (.aload_n 0, 1) := by decide +kernel
theorem dX11_isOdd_22 : decode cX11_isOdd 22 = .ok (.getfield 36, 3) := by decide +kernel
theorem dX11_isOdd_25 : decode cX11_isOdd 25 = .ok (.iconst 0, 1) := by decide +kernel
theorem dX11_isOdd_26 : decode cX11_isOdd 26 = .ok (.iaload, 1) := by decide +kernel
theorem dX11_isOdd_27 : decode cX11_isOdd 27 = .ok (.irem, 1) := by decide +kernel
theorem dX11_isOdd_28 : decode cX11_isOdd 28 = .ok (.invokestatic 127, 3) := by decide +kernel
theorem dX11_isOdd_31 : decode cX11_isOdd 31 = .ok (.ireturn, 1) := by decide +kernel
theorem dX11_about_0 : decode cX11_about 0 = .ok (.aload_n 0, 1) := by decide +kernel
theorem dX11_about_1 : decode cX11_about 1 = .ok (.iload_n 1, 1) := by decide +kernel
theorem dX11_about_2 : decode cX11_about 2 = .ok (.invokevirtual 375, 3) := by decide +kernel
theorem dX11_about_5 : decode cX11_about 5 = .ok (.ifCond .eq 13, 3) := by decide +kernel
theorem dX11_about_8 : decode cX11_about 8 = .ok (.iload_n 2, 1) := by decide +kernel
theorem dX11_about_9 : decode cX11_about 9 = .ok (.iconst 0, 1) := by decide +kernel
theorem dX11_about_10 : decode cX11_about 10 = .ok (.bipush 6, 2) := by decide +kernel
theorem dX11_about_12 : decode cX11_about 12 = .ok (.invokestatic 99, 3) := by decide +kernel
theorem dX11_about_15 : decode cX11_about 15 = .ok (.ifCond .ne 7, 3) := by decide +kernel
theorem dX11_about_18 : decode cX11_about 18 = .ok (.ldc_w 382, 3) := by decide +kernel
theorem dX11_about_21 : decode cX11_about 21 = .ok (.ireturn, 1) := by decide +kernel
theorem dX11_about_22 : decode cX11_about 22 = .ok (.iload_n 2, 1) := by decide +kernel
theorem dX11_about_23 : decode cX11_about 23 = .ok (.tableswitch 111 0 5 #[37, 55, 66, 77, 86, 97], 37) := by decide +kernel
theorem dX11_about_60 : decode cX11_about 60 = .ok (.aload_n 0, 1) := by decide +kernel
theorem dX11_about_61 : decode cX11_about 61 = .ok (.getfield 33, 3) := by decide +kernel
theorem dX11_about_64 : decode cX11_about 64 = .ok (.iload_n 1, 1) := by decide +kernel
theorem dX11_about_65 : decode cX11_about 65 = .ok (.laload, 1) := by decide +kernel
theorem dX11_about_66 : decode cX11_about 66 = .ok (.invokestatic 260, 3) := by decide +kernel
theorem dX11_about_69 : decode cX11_about 69 = .ok (.ifCond .eq 7, 3) := by decide +kernel
theorem dX11_about_72 : decode cX11_about 72 = .ok (.iconst 1, 1) := by decide +kernel
theorem dX11_about_73 : decode cX11_about 73 = .ok (.goto 4, 3) := by decide +kernel
theorem dX11_about_76 : decode cX11_about 76 = .ok (.iconst 0, 1) := by decide +kernel
theorem dX11_about_77 : decode cX11_about 77 = .ok (.ireturn, 1) := by decide +kernel
theorem dX11_about_78 : decode cX11_about 78 = .ok (.aload_n 0, 1) := by decide +kernel
theorem dX11_about_79 : decode cX11_about 79 = .ok (.aload_n 0, 1) := by decide +kernel
theorem dX11_about_80 : decode cX11_about 80 = .ok (.getfield 33, 3) := by decide +kernel
theorem dX11_about_83 : decode cX11_about 83 = .ok (.iload_n 1, 1) := by decide +kernel
theorem dX11_about_84 : decode cX11_about 84 = .ok (.laload, 1) := by decide +kernel
theorem dX11_about_85 : decode cX11_about 85 = .ok (.invokevirtual 383, 3) := by decide +kernel
theorem dX11_about_88 : decode cX11_about 88 = .ok (.ireturn, 1) := by decide +kernel
theorem dX11_about_89 : decode cX11_about 89 = .ok (.aload_n 0, 1) := by decide +kernel
theorem dX11_about_90 : decode cX11_about 90 = .ok (.aload_n 0, 1) := by decide +kernel
theorem dX11_about_91 : decode cX11_about 91 = .ok (.getfield 33, 3) := by decide +kernel
theorem dX11_about_94 : decode cX11_about 94 = .ok (.iload_n 1, 1) := by decide +kernel
theorem dX11_about_95 : decode cX11_about 95 = .ok (.laload, 1) := by decide +kernel
theorem dX11_about_96 : decode cX11_about 96 = .ok (.invokevirtual 386, 3) := by decide +kernel
theorem dX11_about_99 : decode cX11_about 99 = .ok (.ireturn, 1) := by decide +kernel
theorem dX11_about_100 : decode cX11_about 100 = .ok (.iload_n 1, 1) := by decide +kernel
theorem dX11_about_101 : decode cX11_about 101 = .ok (.aload_n 0, 1) := by decide +kernel
theorem dX11_about_102 : decode cX11_about 102 = .ok (.getfield 36, 3) := by decide +kernel
theorem dX11_about_105 : decode cX11_about 105 = .ok (.iconst 0, 1) := by decide +kernel
theorem dX11_about_106 : decode cX11_about 106 = .ok (.iaload, 1) := by decide +kernel
theorem dX11_about_107 : decode cX11_about 107 = .ok (.idiv, 1) := by decide +kernel
theorem dX11_about_108 : decode cX11_about 108 = .ok (.ireturn, 1) := by decide +kernel
theorem dX11_about_109 : decode cX11_about 109 = .ok (.aload_n 0, 1) := by decide +kernel
theorem dX11_about_110 : decode cX11_about 110 = .ok (.aload_n 0, 1) := by decide +kernel
theorem dX11_about_111 : decode cX11_about 111 = .ok (.getfield 33, 3) := by decide +kernel
theorem dX11_about_114 : decode cX11_about 114 = .ok (.iload_n 1, 1) := by decide +kernel
theorem dX11_about_115 : decode cX11_about 115 = .ok (.laload, 1) := by decide +kernel
theorem dX11_about_116 : decode cX11_about 116 = .ok (.invokevirtual 317, 3) := by decide +kernel
theorem dX11_about_119 : decode cX11_about 119 = .ok (.ireturn, 1) := by decide +kernel
theorem dX11_about_120 : decode cX11_about 120 = .ok (.aload_n 0, 1) := by decide +kernel
theorem dX11_about_121 : decode cX11_about 121 = .ok (.iload_n 1, 1) := by decide +kernel
theorem dX11_about_122 : decode cX11_about 122 = .ok (.invokevirtual 389, 3) := by decide +kernel
theorem dX11_about_125 : decode cX11_about 125 = .ok (.ifCond .eq 7, 3) := by decide +kernel
theorem dX11_about_128 : decode cX11_about 128 = .ok (.iconst 1, 1) := by decide +kernel
theorem dX11_about_129 : decode cX11_about 129 = .ok (.goto 4, 3) := by decide +kernel
theorem dX11_about_132 : decode cX11_about 132 = .ok (.iconst 0, 1) := by decide +kernel
theorem dX11_about_133 : decode cX11_about 133 = .ok (.ireturn, 1) := by decide +kernel
theorem dX11_about_134 : decode cX11_about 134 = .ok (.aload_n 0, 1) := by decide +kernel
theorem dX11_about_135 : decode cX11_about 135 = .ok (.iload_n 1, 1) := by decide +kernel
theorem dX11_about_136 : decode cX11_about 136 = .ok (.invokevirtual 392, 3) := by decide +kernel
theorem dX11_about_139 : decode cX11_about 139 = .ok (.ireturn, 1) := by decide +kernel
theorem dX11_isPair_0 : decode cX11_isPair 0 = .ok (.iload_n 0, 1) := by decide +kernel
theorem dX11_isPair_1 : decode cX11_isPair 1 = .ok (.iconst 0, 1) := by decide +kernel
theorem dX11_isPair_2 : decode cX11_isPair 2 = .ok (.bipush 14, 2) := by decide +kernel
theorem dX11_isPair_4 : decode cX11_isPair 4 = .ok (.invokestatic 99, 3) := by decide +kernel
theorem dX11_isPair_7 : decode cX11_isPair 7 = .ok (.ifCond .eq 16, 3) := by decide +kernel
theorem dX11_isPair_10 : decode cX11_isPair 10 = .ok (.iload_n 1, 1) := by decide +kernel
theorem dX11_isPair_11 : decode cX11_isPair 11 = .ok (.iconst 0, 1) := by decide +kernel
theorem dX11_isPair_12 : decode cX11_isPair 12 = .ok (.iload_n 0, 1) := by decide +kernel
theorem dX11_isPair_13 : decode cX11_isPair 13 = .ok (.invokestatic 99, 3) := by decide +kernel
theorem dX11_isPair_16 : decode cX11_isPair 16 = .ok (.ifCond .eq 7, 3) := by decide +kernel
theorem dX11_isPair_19 : decode cX11_isPair 19 = .ok (.iconst 1, 1) := by decide +kernel
theorem dX11_isPair_20 : decode cX11_isPair 20 = .ok (.goto 4, 3) := by decide +kernel
theorem dX11_isPair_23 : decode cX11_isPair 23 = .ok (.iconst 0, 1) := by decide +kernel
theorem dX11_isPair_24 : decode cX11_isPair 24 = .ok (.ireturn, 1) := by decide +kernel
theorem dX11_guise_0 : decode cX11_guise 0 = .ok (.aload_n 0, 1) := by decide +kernel
theorem dX11_guise_1 : decode cX11_guise 1 = .ok (.iload_n 1, 1) := by decide +kernel
theorem dX11_guise_2 : decode cX11_guise 2 = .ok (.invokevirtual 375, 3) := by decide +kernel
theorem dX11_guise_5 : decode cX11_guise 5 = .ok (.ifCond .eq 11, 3) := by decide +kernel
theorem dX11_guise_8 : decode cX11_guise 8 = .ok (.iload_n 2, 1) := by decide +kernel
theorem dX11_guise_9 : decode cX11_guise 9 = .ok (.iload_n 3, 1) := by decide +kernel
theorem dX11_guise_10 : decode cX11_guise 10 = .ok (.invokestatic 395, 3) := by decide +kernel
theorem dX11_guise_13 : decode cX11_guise 13 = .ok (.ifCond .ne 7, 3) := by decide +kernel
theorem dX11_guise_16 : decode cX11_guise 16 = .ok (.ldc2_w 236, 3) := by decide +kernel
theorem dX11_guise_19 : decode cX11_guise 19 = .ok (.lreturn, 1) := by decide +kernel
theorem dX11_guise_20 : decode cX11_guise 20 = .ok (.aload_n 0, 1) := by decide +kernel
theorem dX11_guise_21 : decode cX11_guise 21 = .ok (.aload_n 0, 1) := by decide +kernel
theorem dX11_guise_22 : decode cX11_guise 22 = .ok (.getfield 33, 3) := by decide +kernel
theorem dX11_guise_25 : decode cX11_guise 25 = .ok (.iload_n 1, 1) := by decide +kernel
theorem dX11_guise_26 : decode cX11_guise 26 = .ok (.laload, 1) := by decide +kernel
theorem dX11_guise_27 : decode cX11_guise 27 = .ok (.iload_n 2, 1) := by decide +kernel
theorem dX11_guise_28 : decode cX11_guise 28 = .ok (.iload_n 3, 1) := by decide +kernel
theorem dX11_guise_29 : decode cX11_guise 29 = .ok (.invokevirtual 274, 3) := by decide +kernel
theorem dX11_guise_32 : decode cX11_guise 32 = .ok (.lstore 4, 2) := by decide +kernel
theorem dX11_guise_34 : decode cX11_guise 34 = .ok (.aload_n 0, 1) := by decide +kernel
theorem dX11_guise_35 : decode cX11_guise 35 = .ok (.getfield 257, 3) := by decide +kernel
theorem dX11_guise_38 : decode cX11_guise 38 = .ok (.ifCond .eq 8, 3) := by decide +kernel
theorem dX11_guise_41 : decode cX11_guise 41 = .ok (.lload 4, 2) := by decide +kernel
theorem dX11_guise_43 : decode cX11_guise 43 = .ok (.goto 6, 3) := by decide +kernel
theorem dX11_guise_46 : decode cX11_guise 46 = .ok (.ldc2_w 236, 3) := by decide +kernel
theorem dX11_guise_49 : decode cX11_guise 49 = .ok (.lreturn, 1) := by decide +kernel
theorem dX11_isBlock_0 : decode cX11_isBlock 0 = .ok (.aload_n 0, 1) := by decide +kernel
theorem dX11_isBlock_1 : decode cX11_isBlock 1 = .ok (.getfield 238, 3) := by decide +kernel
theorem dX11_isBlock_4 : decode cX11_isBlock 4 = .ok (.ifCond .eq 21, 3) := by decide +kernel
theorem dX11_isBlock_7 : decode cX11_isBlock 7 = .ok (.iload_n 1, 1) := by decide +kernel
theorem dX11_isBlock_8 : decode cX11_isBlock 8 = .ok (.iconst 0, 1) := by decide +kernel
theorem dX11_isBlock_9 : decode cX11_isBlock 9 = .ok (.aload_n 0, 1) := by decide +kernel
theorem dX11_isBlock_10 : decode cX11_isBlock 10 = .ok (.invokevirtual 329, 3) := by decide +kernel
theorem dX11_isBlock_13 : decode cX11_isBlock 13 = .ok (.iconst 1, 1) := by decide +kernel
theorem dX11_isBlock_14 : decode cX11_isBlock 14 = .ok (.isub, 1) := by decide +kernel
theorem dX11_isBlock_15 : decode cX11_isBlock 15 = .ok (.invokestatic 99, 3) := by decide +kernel
theorem dX11_isBlock_18 : decode cX11_isBlock 18 = .ok (.ifCond .eq 7, 3) := by decide +kernel
theorem dX11_isBlock_21 : decode cX11_isBlock 21 = .ok (.iconst 1, 1) := by decide +kernel
theorem dX11_isBlock_22 : decode cX11_isBlock 22 = .ok (.goto 4, 3) := by decide +kernel
theorem dX11_isBlock_25 : decode cX11_isBlock 25 = .ok (.iconst 0, 1) := by decide +kernel
theorem dX11_isBlock_26 : decode cX11_isBlock 26 = .ok (.ireturn, 1) := by decide +kernel
theorem dX11_cost_0 : decode cX11_cost 0 = .ok (.aload_n 0, 1) := by decide +kernel
theorem dX11_cost_1 : decode cX11_cost 1 = .ok (.iload_n 1, 1) := by decide +kernel
theorem dX11_cost_2 : decode cX11_cost 2 = .ok (.invokevirtual 398, 3) := by decide +kernel
theorem dX11_cost_5 : decode cX11_cost 5 = .ok (.ifCond .eq 11, 3) := by decide +kernel
theorem dX11_cost_8 : decode cX11_cost 8 = .ok (.iload_n 2, 1) := by decide +kernel
theorem dX11_cost_9 : decode cX11_cost 9 = .ok (.iload_n 3, 1) := by decide +kernel
theorem dX11_cost_10 : decode cX11_cost 10 = .ok (.invokestatic 395, 3) := by decide +kernel
theorem dX11_cost_13 : decode cX11_cost 13 = .ok (.ifCond .ne 5, 3) := by decide +kernel
theorem dX11_cost_16 : decode cX11_cost 16 = .ok (.iconst (-1), 1) := by decide +kernel
theorem dX11_cost_17 : decode cX11_cost 17 = .ok (.ireturn, 1) := by decide +kernel
theorem dX11_cost_18 : decode cX11_cost 18 = .ok (.aload_n 0, 1) := by decide +kernel
theorem dX11_cost_19 : decode cX11_cost 19 = .ok (.iload_n 1, 1) := by decide +kernel
theorem dX11_cost_20 : decode cX11_cost 20 = .ok (.invokevirtual 351, 3) := by decide +kernel
theorem dX11_cost_23 : decode cX11_cost 23 = .ok (.aload_n 0, 1) := by decide +kernel
theorem dX11_cost_24 : decode cX11_cost 24 = .ok (.iload_n 2, 1) := by decide +kernel
theorem dX11_cost_25 : decode cX11_cost 25 = .ok (.iload_n 3, 1) := by decide +kernel
theorem dX11_cost_26 : decode cX11_cost 26 = .ok (.invokevirtual 336, 3) := by decide +kernel
theorem dX11_cost_29 : decode cX11_cost 29 = .ok (.ireturn, 1) := by decide +kernel
theorem dX11_score_0 : decode cX11_score 0 = .ok (.aload_n 0, 1) := by decide +kernel
theorem dX11_score_1 : decode cX11_score 1 = .ok (.getfield 238, 3) := by decide +kernel
theorem dX11_score_4 : decode cX11_score 4 = .ok (.ifCond .eq 20, 3) := by decide +kernel
theorem dX11_score_7 : decode cX11_score 7 = .ok (.iload_n 1, 1) := by decide +kernel
theorem dX11_score_8 : decode cX11_score 8 = .ok (.iload_n 2, 1) := by decide +kernel
theorem dX11_score_9 : decode cX11_score 9 = .ok (.invokestatic 395, 3) := by decide +kernel
theorem dX11_score_12 : decode cX11_score 12 = .ok (.ifCond .eq 12, 3) := by decide +kernel
theorem dX11_score_15 : decode cX11_score 15 = .ok (.aload_n 0, 1) := by decide +kernel
theorem dX11_score_16 : decode cX11_score 16 = .ok (.iload_n 1, 1) := by decide +kernel
theorem dX11_score_17 : decode cX11_score 17 = .ok (.iload_n 2, 1) := by decide +kernel
theorem dX11_score_18 : decode cX11_score 18 = .ok (.invokevirtual 342, 3) := by decide +kernel
theorem dX11_score_21 : decode cX11_score 21 = .ok (.goto 4, 3) := by decide +kernel
theorem dX11_score_24 : decode cX11_score 24 = .ok (.iconst (-1), 1) := by decide +kernel
theorem dX11_score_25 : decode cX11_score 25 = .ok (.ireturn, 1) := by decide +kernel
theorem dX11_five_0 : decode cX11_five 0 = .ok (.aload_n 0, 1) := by decide +kernel
theorem dX11_five_1 : decode cX11_five 1 = .ok (.getfield 238, 3) := by decide +kernel
theorem dX11_five_4 : decode cX11_five 4 = .ok (.ifCond .eq 10, 3) := by decide +kernel
theorem dX11_five_7 : decode cX11_five 7 = .ok (.aload_n 0, 1) := by decide +kernel
theorem dX11_five_8 : decode cX11_five 8 = .ok (.getfield 242, 3) := by decide +kernel
theorem dX11_five_11 : decode cX11_five 11 = .ok (.ifCond .ne 5, 3) := by decide +kernel
theorem dX11_five_14 : decode cX11_five 14 = .ok (.iconst (-1), 1) := by decide +kernel
theorem dX11_five_15 : decode cX11_five 15 = .ok (.ireturn, 1) := by decide +kernel
theorem dX11_five_16 : decode cX11_five 16 = .ok (.aload_n 0, 1) := by decide +kernel
theorem dX11_five_17 : decode cX11_five 17 = .ok (.invokevirtual 369, 3) := by decide +kernel
theorem dX11_five_20 : decode cX11_five 20 = .ok (.iload_n 1, 1) := by decide +kernel
theorem dX11_five_21 : decode cX11_five 21 = .ok (.iconst 0, 1) := by decide +kernel
theorem dX11_five_22 : decode cX11_five 22 = .ok (.aload_n 0, 1) := by decide +kernel
theorem dX11_five_23 : decode cX11_five 23 = .ok (.getfield 339, 3) := by decide +kernel
theorem dX11_five_26 : decode cX11_five 26 = .ok (.iconst 1, 1) := by decide +kernel
theorem dX11_five_27 : decode cX11_five 27 = .ok (.isub, 1) := by decide +kernel
theorem dX11_five_28 : decode cX11_five 28 = .ok (.invokestatic 99, 3) := by decide +kernel
theorem dX11_five_31 : decode cX11_five 31 = .ok (.ifCond .eq 12, 3) := by decide +kernel
theorem dX11_five_34 : decode cX11_five 34 = .ok (.aload_n 0, 1) := by decide +kernel
theorem dX11_five_35 : decode cX11_five 35 = .ok (.getfield 54, 3) := by decide +kernel
theorem dX11_five_38 : decode cX11_five 38 = .ok (.iload_n 1, 1) := by decide +kernel
theorem dX11_five_39 : decode cX11_five 39 = .ok (.iaload, 1) := by decide +kernel
theorem dX11_five_40 : decode cX11_five 40 = .ok (.goto 4, 3) := by decide +kernel
theorem dX11_five_43 : decode cX11_five 43 = .ok (.iconst (-1), 1) := by decide +kernel
theorem dX11_five_44 : decode cX11_five 44 = .ok (.ireturn, 1) := by decide +kernel
theorem dX11_block_0 : decode cX11_block 0 = .ok (.aload_n 0, 1) := by decide +kernel
theorem dX11_block_1 : decode cX11_block 1 = .ok (.iload_n 1, 1) := by decide +kernel
theorem dX11_block_2 : decode cX11_block 2 = .ok (.invokevirtual 398, 3) := by decide +kernel
theorem dX11_block_5 : decode cX11_block 5 = .ok (.ifCond .eq 13, 3) := by decide +kernel
theorem dX11_block_8 : decode cX11_block 8 = .ok (.iload_n 2, 1) := by decide +kernel
theorem dX11_block_9 : decode cX11_block 9 = .ok (.iconst 0, 1) := by decide +kernel
theorem dX11_block_10 : decode cX11_block 10 = .ok (.bipush 7, 2) := by decide +kernel
theorem dX11_block_12 : decode cX11_block 12 = .ok (.invokestatic 99, 3) := by decide +kernel
theorem dX11_block_15 : decode cX11_block 15 = .ok (.ifCond .ne 7, 3) := by decide +kernel
theorem dX11_block_18 : decode cX11_block 18 = .ok (.ldc_w 382, 3) := by decide +kernel
theorem dX11_block_21 : decode cX11_block 21 = .ok (.ireturn, 1) := by decide +kernel
theorem dX11_block_22 : decode cX11_block 22 = .ok (.aload_n 0, 1) := by decide +kernel
theorem dX11_block_23 : decode cX11_block 23 = .ok (.invokevirtual 369, 3) := by decide +kernel
theorem dX11_block_26 : decode cX11_block 26 = .ok (.aload_n 0, 1) := by decide +kernel
theorem dX11_block_27 : decode cX11_block 27 = .ok (.iload_n 1, 1) := by decide +kernel
theorem dX11_block_28 : decode cX11_block 28 = .ok (.invokevirtual 372, 3) := by decide +kernel
theorem dX11_block_31 : decode cX11_block 31 = .ok (.iload_n 2, 1) := by decide +kernel
theorem dX11_block_32 : decode cX11_block 32 = .ok (.tableswitch 97 0 6 #[44, 49, 54, 59, 64, 69, 74], 44) := by decide +kernel
theorem dX11_block_76 : decode cX11_block 76 = .ok (.aload_n 0, 1) := by decide +kernel
theorem dX11_block_77 : decode cX11_block 77 = .ok (.getfield 286, 3) := by decide +kernel
theorem dX11_block_80 : decode cX11_block 80 = .ok (.ireturn, 1) := by decide +kernel
theorem dX11_block_81 : decode cX11_block 81 = .ok (.aload_n 0, 1) := by decide +kernel
theorem dX11_block_82 : decode cX11_block 82 = .ok (.getfield 360, 3) := by decide +kernel
theorem dX11_block_85 : decode cX11_block 85 = .ok (.ireturn, 1) := by decide +kernel
theorem dX11_block_86 : decode cX11_block 86 = .ok (.aload_n 0, 1) := by decide +kernel
theorem dX11_block_87 : decode cX11_block 87 = .ok (.getfield 348, 3) := by decide +kernel
theorem dX11_block_90 : decode cX11_block 90 = .ok (.ireturn, 1) := by decide +kernel
theorem dX11_block_91 : decode cX11_block 91 = .ok (.aload_n 0, 1) := by decide +kernel
theorem dX11_block_92 : decode cX11_block 92 = .ok (.getfield 366, 3) := by decide +kernel
theorem dX11_block_95 : decode cX11_block 95 = .ok (.ireturn, 1) := by decide +kernel
theorem dX11_block_96 : decode cX11_block 96 = .ok (.aload_n 0, 1) := by decide +kernel
theorem dX11_block_97 : decode cX11_block 97 = .ok (.getfield 357, 3) := by decide +kernel
theorem dX11_block_100 : decode cX11_block 100 = .ok (.ireturn, 1) := by decide +kernel
theorem dX11_block_101 : decode cX11_block 101 = .ok (.aload_n 0, 1) := by decide +kernel
theorem dX11_block_102 : decode cX11_block 102 = .ok (.getfield 289, 3) := by decide +kernel
theorem dX11_block_105 : decode cX11_block 105 = .ok (.ireturn, 1) := by decide +kernel
theorem dX11_block_106 : decode cX11_block 106 = .ok (.aload_n 0, 1) := by decide +kernel
theorem dX11_block_107 : decode cX11_block 107 = .ok (.aload_n 0, 1) := by decide +kernel
theorem dX11_block_108 : decode cX11_block 108 = .ok (.getfield 348, 3) := by decide +kernel
theorem dX11_block_111 : decode cX11_block 111 = .ok (.bipush 16, 2) := by decide +kernel
theorem dX11_block_113 : decode cX11_block 113 = .ok (.idiv, 1) := by decide +kernel
theorem dX11_block_114 : decode cX11_block 114 = .ok (.aload_n 0, 1) := by decide +kernel
theorem dX11_block_115 : decode cX11_block 115 = .ok (.getfield 348, 3) := by decide +kernel
theorem dX11_block_118 : decode cX11_block 118 = .ok (.bipush 16, 2) := by decide +kernel
theorem dX11_block_120 : decode cX11_block 120 = .ok (.irem, 1) := by decide +kernel
theorem dX11_block_121 : decode cX11_block 121 = .ok (.invokevirtual 307, 3) := by decide +kernel
theorem dX11_block_124 : decode cX11_block 124 = .ok (.aload_n 0, 1) := by decide +kernel
theorem dX11_block_125 : decode cX11_block 125 = .ok (.getfield 304, 3) := by decide +kernel
theorem dX11_block_128 : decode cX11_block 128 = .ok (.ireturn, 1) := by decide +kernel
theorem dX11_block_129 : decode cX11_block 129 = .ok (.aload_n 0, 1) := by decide +kernel
theorem dX11_block_130 : decode cX11_block 130 = .ok (.invokevirtual 326, 3) := by decide +kernel
theorem dX11_block_133 : decode cX11_block 133 = .ok (.aload_n 0, 1) := by decide +kernel
theorem dX11_block_134 : decode cX11_block 134 = .ok (.getfield 320, 3) := by decide +kernel
theorem dX11_block_137 : decode cX11_block 137 = .ok (.ireturn, 1) := by decide +kernel
theorem dX11_commonest_0 : decode cX11_commonest 0 = .ok (.aload_n 0, 1) := by decide +kernel
theorem dX11_commonest_1 : decode cX11_commonest 1 = .ok (.getfield 292, 3) := by decide +kernel
theorem dX11_commonest_4 : decode cX11_commonest 4 = .ok (.lstore_n 3, 1) := by decide +kernel
theorem dX11_commonest_5 : decode cX11_commonest 5 = .ok (.iconst 0, 1) := by decide +kernel
theorem dX11_commonest_6 : decode cX11_commonest 6 = .ok (.istore 5, 2) := by decide +kernel
theorem dX11_commonest_8 : decode cX11_commonest 8 = .ok (.iconst 0, 1) := by decide +kernel
theorem dX11_commonest_9 : decode cX11_commonest 9 = .ok (.istore 6, 2) := by decide +kernel
theorem dX11_commonest_11 : decode cX11_commonest 11 = .ok (.iload 6, 2) := by decide +kernel
theorem dX11_commonest_13 : decode cX11_commonest 13 = .ok (.aload_n 0, 1) := by decide +kernel
theorem dX11_commonest_14 : decode cX11_commonest 14 = .ok (.getfield 286, 3) := by decide +kernel
theorem dX11_commonest_17 : decode cX11_commonest 17 = .ok (.if_icmp .ge 129, 3) := by decide +kernel
theorem dX11_commonest_20 : decode cX11_commonest 20 = .ok (.aload_n 0, 1) := by decide +kernel
theorem dX11_commonest_21 : decode cX11_commonest 21 = .ok (.aload_n 0, 1) := by decide +kernel
theorem dX11_commonest_22 : decode cX11_commonest 22 = .ok (.getfield 45, 3) := by decide +kernel
theorem dX11_commonest_25 : decode cX11_commonest 25 = .ok (.iload 6, 2) := by decide +kernel
theorem dX11_commonest_27 : decode cX11_commonest 27 = .ok (.laload, 1) := by decide +kernel
theorem dX11_commonest_28 : decode cX11_commonest 28 = .ok (.iload_n 1, 1) := by decide +kernel
theorem dX11_commonest_29 : decode cX11_commonest 29 = .ok (.iload_n 2, 1) := by decide +kernel
theorem dX11_commonest_30 : decode cX11_commonest 30 = .ok (.invokevirtual 274, 3) := by decide +kernel
theorem dX11_commonest_33 : decode cX11_commonest 33 = .ok (.lstore 7, 2) := by decide +kernel
theorem dX11_commonest_35 : decode cX11_commonest 35 = .ok (.aload_n 0, 1) := by decide +kernel
theorem dX11_commonest_36 : decode cX11_commonest 36 = .ok (.getfield 257, 3) := by decide +kernel
theorem dX11_commonest_39 : decode cX11_commonest 39 = .ok (.ifCond .eq 101, 3) := by decide +kernel
theorem dX11_commonest_42 : decode cX11_commonest 42 = .ok (.iconst 0, 1) := by decide +kernel
theorem dX11_commonest_43 : decode cX11_commonest 43 = .ok (.istore 9, 2) := by decide +kernel
theorem dX11_commonest_45 : decode cX11_commonest 45 = .ok (.iconst 0, 1) := by decide +kernel
theorem dX11_commonest_46 : decode cX11_commonest 46 = .ok (.istore 10, 2) := by decide +kernel
theorem dX11_commonest_48 : decode cX11_commonest 48 = .ok (.iload 10, 2) := by decide +kernel
theorem dX11_commonest_50 : decode cX11_commonest 50 = .ok (.aload_n 0, 1) := by decide +kernel
theorem dX11_commonest_51 : decode cX11_commonest 51 = .ok (.getfield 286, 3) := by decide +kernel
theorem dX11_commonest_54 : decode cX11_commonest 54 = .ok (.if_icmp .ge 49, 3) := by decide +kernel
theorem dX11_commonest_57 : decode cX11_commonest 57 = .ok (.aload_n 0, 1) := by decide +kernel
theorem dX11_commonest_58 : decode cX11_commonest 58 = .ok (.aload_n 0, 1) := by decide +kernel
theorem dX11_commonest_59 : decode cX11_commonest 59 = .ok (.getfield 45, 3) := by decide +kernel
theorem dX11_commonest_62 : decode cX11_commonest 62 = .ok (.iload 10, 2) := by decide +kernel
theorem dX11_commonest_64 : decode cX11_commonest 64 = .ok (.laload, 1) := by decide +kernel
theorem dX11_commonest_65 : decode cX11_commonest 65 = .ok (.iload_n 1, 1) := by decide +kernel
theorem dX11_commonest_66 : decode cX11_commonest 66 = .ok (.iload_n 2, 1) := by decide +kernel
theorem dX11_commonest_67 : decode cX11_commonest 67 = .ok (.invokevirtual 274, 3) := by decide +kernel
theorem dX11_commonest_70 : decode cX11_commonest 70 = .ok (.lstore 11, 2) := by decide +kernel
theorem dX11_commonest_72 : decode cX11_commonest 72 = .ok (.iload 9, 2) := by decide +kernel
theorem dX11_commonest_74 : decode cX11_commonest 74 = .ok (.aload_n 0, 1) := by decide +kernel
theorem dX11_commonest_75 : decode cX11_commonest 75 = .ok (.getfield 257, 3) := by decide +kernel
theorem dX11_commonest_78 : decode cX11_commonest 78 = .ok (.ifCond .eq 15, 3) := by decide +kernel
theorem dX11_commonest_81 : decode cX11_commonest 81 = .ok (.lload 11, 2) := by decide +kernel
theorem dX11_commonest_83 : decode cX11_commonest 83 = .ok (.lload 7, 2) := by decide +kernel
theorem dX11_commonest_85 : decode cX11_commonest 85 = .ok (.lcmp, 1) := by decide +kernel
theorem dX11_commonest_86 : decode cX11_commonest 86 = .ok (.ifCond .ne 7, 3) := by decide +kernel
theorem dX11_commonest_89 : decode cX11_commonest 89 = .ok (.iconst 1, 1) := by decide +kernel
theorem dX11_commonest_90 : decode cX11_commonest 90 = .ok (.goto 4, 3) := by decide +kernel
theorem dX11_commonest_93 : decode cX11_commonest 93 = .ok (.iconst 0, 1) := by decide +kernel
theorem dX11_commonest_94 : decode cX11_commonest 94 = .ok (.iadd, 1) := by decide +kernel
theorem dX11_commonest_95 : decode cX11_commonest 95 = .ok (.istore 9, 2) := by decide +kernel
theorem dX11_commonest_97 : decode cX11_commonest 97 = .ok (.iinc 10 1, 3) := by decide +kernel
theorem dX11_commonest_100 : decode cX11_commonest 100 = .ok (.goto (-52), 3) := by decide +kernel
theorem dX11_commonest_103 : decode cX11_commonest 103 = .ok (.iload 9, 2) := by decide +kernel
theorem dX11_commonest_105 : decode cX11_commonest 105 = .ok (.iload 5, 2) := by decide +kernel
theorem dX11_commonest_107 : decode cX11_commonest 107 = .ok (.if_icmp .gt 17, 3) := by decide +kernel
theorem dX11_commonest_110 : decode cX11_commonest 110 = .ok (.iload 9, 2) := by decide +kernel
theorem dX11_commonest_112 : decode cX11_commonest 112 = .ok (.iload 5, 2) := by decide +kernel
theorem dX11_commonest_114 : decode cX11_commonest 114 = .ok (.if_icmp .ne 15, 3) := by decide +kernel
theorem dX11_commonest_117 : decode cX11_commonest 117 = .ok (.lload 7, 2) := by decide +kernel
theorem dX11_commonest_119 : decode cX11_commonest 119 = .ok (.lload_n 3, 1) := by decide +kernel
theorem dX11_commonest_120 : decode cX11_commonest 120 = .ok (.lcmp, 1) := by decide +kernel
theorem dX11_commonest_121 : decode cX11_commonest 121 = .ok (.ifCond .ge 8, 3) := by decide +kernel
theorem dX11_commonest_124 : decode cX11_commonest 124 = .ok (.lload 7, 2) := by decide +kernel
theorem dX11_commonest_126 : decode cX11_commonest 126 = .ok (.goto 4, 3) := by decide +kernel
theorem dX11_commonest_129 : decode cX11_commonest 129 = .ok (.lload_n 3, 1) := by decide +kernel
theorem dX11_commonest_130 : decode cX11_commonest 130 = .ok (.lstore_n 3, 1) := by decide +kernel
theorem dX11_commonest_131 : decode cX11_commonest 131 = .ok (.iload 5, 2) := by decide +kernel
theorem dX11_commonest_133 : decode cX11_commonest 133 = .ok (.iload 9, 2) := by decide +kernel
theorem dX11_commonest_135 : decode cX11_commonest 135 = .ok (.invokestatic 401, 3) := by decide +kernel
theorem dX11_commonest_138 : decode cX11_commonest 138 = .ok (.istore 5, 2) := by decide +kernel
theorem dX11_commonest_140 : decode cX11_commonest 140 = .ok (.iinc 6 1, 3) := by decide +kernel
theorem dX11_commonest_143 : decode cX11_commonest 143 = .ok (.goto (-132), 3) := by decide +kernel
theorem dX11_commonest_146 : decode cX11_commonest 146 = .ok (.lload_n 3, 1) := by decide +kernel
theorem dX11_commonest_147 : decode cX11_commonest 147 = .ok (.lreturn, 1) := by decide +kernel
theorem dX11_whole_0 : decode cX11_whole 0 = .ok (.aload_n 0, 1) := by decide +kernel
theorem dX11_whole_1 : decode cX11_whole 1 = .ok (.iload_n 1, 1) := by decide +kernel
theorem dX11_whole_2 : decode cX11_whole 2 = .ok (.invokevirtual 398, 3) := by decide +kernel
theorem dX11_whole_5 : decode cX11_whole 5 = .ok (.ifCond .eq 12, 3) := by decide +kernel
theorem dX11_whole_8 : decode cX11_whole 8 = .ok (.iload_n 2, 1) := by decide +kernel
theorem dX11_whole_9 : decode cX11_whole 9 = .ok (.iconst 0, 1) := by decide +kernel
theorem dX11_whole_10 : decode cX11_whole 10 = .ok (.iconst 2, 1) := by decide +kernel
theorem dX11_whole_11 : decode cX11_whole 11 = .ok (.invokestatic 99, 3) := by decide +kernel
theorem dX11_whole_14 : decode cX11_whole 14 = .ok (.ifCond .ne 7, 3) := by decide +kernel
theorem dX11_whole_17 : decode cX11_whole 17 = .ok (.ldc2_w 236, 3) := by decide +kernel
theorem dX11_whole_20 : decode cX11_whole 20 = .ok (.lreturn, 1) := by decide +kernel
theorem dX11_whole_21 : decode cX11_whole 21 = .ok (.aload_n 0, 1) := by decide +kernel
theorem dX11_whole_22 : decode cX11_whole 22 = .ok (.invokevirtual 369, 3) := by decide +kernel
theorem dX11_whole_25 : decode cX11_whole 25 = .ok (.aload_n 0, 1) := by decide +kernel
theorem dX11_whole_26 : decode cX11_whole 26 = .ok (.iload_n 1, 1) := by decide +kernel
theorem dX11_whole_27 : decode cX11_whole 27 = .ok (.invokevirtual 345, 3) := by decide +kernel
theorem dX11_whole_30 : decode cX11_whole 30 = .ok (.istore_n 3, 1) := by decide +kernel
theorem dX11_whole_31 : decode cX11_whole 31 = .ok (.aload_n 0, 1) := by decide +kernel
theorem dX11_whole_32 : decode cX11_whole 32 = .ok (.iload_n 1, 1) := by decide +kernel
theorem dX11_whole_33 : decode cX11_whole 33 = .ok (.invokevirtual 351, 3) := by decide +kernel
theorem dX11_whole_36 : decode cX11_whole 36 = .ok (.aload_n 0, 1) := by decide +kernel
theorem dX11_whole_37 : decode cX11_whole 37 = .ok (.iload_n 3, 1) := by decide +kernel
theorem dX11_whole_38 : decode cX11_whole 38 = .ok (.bipush 16, 2) := by decide +kernel
theorem dX11_whole_40 : decode cX11_whole 40 = .ok (.idiv, 1) := by decide +kernel
theorem dX11_whole_41 : decode cX11_whole 41 = .ok (.iload_n 3, 1) := by decide +kernel
theorem dX11_whole_42 : decode cX11_whole 42 = .ok (.bipush 16, 2) := by decide +kernel
theorem dX11_whole_44 : decode cX11_whole 44 = .ok (.irem, 1) := by decide +kernel
theorem dX11_whole_45 : decode cX11_whole 45 = .ok (.invokevirtual 307, 3) := by decide +kernel
theorem dX11_whole_48 : decode cX11_whole 48 = .ok (.iload_n 2, 1) := by decide +kernel
theorem dX11_whole_49 : decode cX11_whole 49 = .ok (.ifCond .ne 10, 3) := by decide +kernel
theorem dX11_whole_52 : decode cX11_whole 52 = .ok (.aload_n 0, 1) := by decide +kernel
theorem dX11_whole_53 : decode cX11_whole 53 = .ok (.getfield 292, 3) := by decide +kernel
theorem dX11_whole_56 : decode cX11_whole 56 = .ok (.goto 27, 3) := by decide +kernel
theorem dX11_whole_59 : decode cX11_whole 59 = .ok (.iload_n 2, 1) := by decide +kernel
theorem dX11_whole_60 : decode cX11_whole 60 = .ok (.iconst 1, 1) := by decide +kernel
theorem dX11_whole_61 : decode cX11_whole 61 = .ok (.if_icmp .ne 10, 3) := by decide +kernel
theorem dX11_whole_64 : decode cX11_whole 64 = .ok (.aload_n 0, 1) := by decide +kernel
theorem dX11_whole_65 : decode cX11_whole 65 = .ok (.getfield 295, 3) := by decide +kernel
theorem dX11_whole_68 : decode cX11_whole 68 = .ok (.goto 15, 3) := by decide +kernel
theorem dX11_whole_71 : decode cX11_whole 71 = .ok (.aload_n 0, 1) := by decide +kernel
theorem dX11_whole_72 : decode cX11_whole 72 = .ok (.iload_n 3, 1) := by decide +kernel
theorem dX11_whole_73 : decode cX11_whole 73 = .ok (.bipush 16, 2) := by decide +kernel
theorem dX11_whole_75 : decode cX11_whole 75 = .ok (.idiv, 1) := by decide +kernel
theorem dX11_whole_76 : decode cX11_whole 76 = .ok (.iload_n 3, 1) := by decide +kernel
theorem dX11_whole_77 : decode cX11_whole 77 = .ok (.bipush 16, 2) := by decide +kernel
theorem dX11_whole_79 : decode cX11_whole 79 = .ok (.irem, 1) := by decide +kernel
theorem dX11_whole_80 : decode cX11_whole 80 = .ok (.invokevirtual 403, 3) := by decide +kernel
theorem dX11_whole_83 : decode cX11_whole 83 = .ok (.lreturn, 1) := by decide +kernel
theorem dX11_part_0 : decode cX11_part 0 = .ok (.aload_n 0, 1) := by decide +kernel
theorem dX11_part_1 : decode cX11_part 1 = .ok (.iload_n 1, 1) := by decide +kernel
theorem dX11_part_2 : decode cX11_part 2 = .ok (.invokevirtual 398, 3) := by decide +kernel
theorem dX11_part_5 : decode cX11_part 5 = .ok (.ifCond .ne 5, 3) := by decide +kernel
theorem dX11_part_8 : decode cX11_part 8 = .ok (.iconst (-1), 1) := by decide +kernel
theorem dX11_part_9 : decode cX11_part 9 = .ok (.ireturn, 1) := by decide +kernel
theorem dX11_part_10 : decode cX11_part 10 = .ok (.aload_n 0, 1) := by decide +kernel
theorem dX11_part_11 : decode cX11_part 11 = .ok (.iload_n 1, 1) := by decide +kernel
theorem dX11_part_12 : decode cX11_part 12 = .ok (.invokevirtual 351, 3) := by decide +kernel
theorem dX11_part_15 : decode cX11_part 15 = .ok (.aload_n 0, 1) := by decide +kernel
theorem dX11_part_16 : decode cX11_part 16 = .ok (.invokevirtual 326, 3) := by decide +kernel
theorem dX11_part_19 : decode cX11_part 19 = .ok (.iload_n 2, 1) := by decide +kernel
theorem dX11_part_20 : decode cX11_part 20 = .ok (.iconst 0, 1) := by decide +kernel
theorem dX11_part_21 : decode cX11_part 21 = .ok (.aload_n 0, 1) := by decide +kernel
theorem dX11_part_22 : decode cX11_part 22 = .ok (.getfield 320, 3) := by decide +kernel
theorem dX11_part_25 : decode cX11_part 25 = .ok (.iconst 1, 1) := by decide +kernel
theorem dX11_part_26 : decode cX11_part 26 = .ok (.isub, 1) := by decide +kernel
theorem dX11_part_27 : decode cX11_part 27 = .ok (.invokestatic 99, 3) := by decide +kernel
theorem dX11_part_30 : decode cX11_part 30 = .ok (.ifCond .eq 12, 3) := by decide +kernel
theorem dX11_part_33 : decode cX11_part 33 = .ok (.aload_n 0, 1) := by decide +kernel
theorem dX11_part_34 : decode cX11_part 34 = .ok (.getfield 48, 3) := by decide +kernel
theorem dX11_part_37 : decode cX11_part 37 = .ok (.iload_n 2, 1) := by decide +kernel
theorem dX11_part_38 : decode cX11_part 38 = .ok (.iaload, 1) := by decide +kernel
theorem dX11_part_39 : decode cX11_part 39 = .ok (.goto 4, 3) := by decide +kernel
theorem dX11_part_42 : decode cX11_part 42 = .ok (.iconst (-1), 1) := by decide +kernel
theorem dX11_part_43 : decode cX11_part 43 = .ok (.ireturn, 1) := by decide +kernel
theorem dX11_putByte_0 : decode cX11_putByte 0 = .ok (.aload_n 0, 1) := by decide +kernel
theorem dX11_putByte_1 : decode cX11_putByte 1 = .ok (.getfield 60, 3) := by decide +kernel
theorem dX11_putByte_4 : decode cX11_putByte 4 = .ok (.aload_n 0, 1) := by decide +kernel
theorem dX11_putByte_5 : decode cX11_putByte 5 = .ok (.getfield 251, 3) := by decide +kernel
theorem dX11_putByte_8 : decode cX11_putByte 8 = .ok (.iload_n 1, 1) := by decide +kernel
theorem dX11_putByte_9 : decode cX11_putByte 9 = .ok (.sipush 255, 3) := by decide +kernel
theorem dX11_putByte_12 : decode cX11_putByte 12 = .ok (.iand, 1) := by decide +kernel
theorem dX11_putByte_13 : decode cX11_putByte 13 = .ok (.iastore, 1) := by decide +kernel
theorem dX11_putByte_14 : decode cX11_putByte 14 = .ok (.aload_n 0, 1) := by decide +kernel
theorem dX11_putByte_15 : decode cX11_putByte 15 = .ok (.dup, 1) := by decide +kernel
theorem dX11_putByte_16 : decode cX11_putByte 16 = .ok (.getfield 251, 3) := by decide +kernel
theorem dX11_putByte_19 : decode cX11_putByte 19 = .ok (.iconst 1, 1) := by decide +kernel
theorem dX11_putByte_20 : decode cX11_putByte 20 = .ok (.iadd, 1) := by decide +kernel
theorem dX11_putByte_21 : decode cX11_putByte 21 = .ok (.putfield 251, 3) := by decide +kernel
theorem dX11_putByte_24 : decode cX11_putByte 24 = .ok (.return_, 1) := by decide +kernel
theorem dX11_putLong_0 : decode cX11_putLong 0 = .ok (.bipush 56, 2) := by decide +kernel
theorem dX11_putLong_2 : decode cX11_putLong 2 = .ok (.istore_n 3, 1) := by decide +kernel
theorem dX11_putLong_3 : decode cX11_putLong 3 = .ok (.iload_n 3, 1) := by decide +kernel
theorem dX11_putLong_4 : decode cX11_putLong 4 = .ok (.ifCond .lt 17, 3) := by decide +kernel
theorem dX11_putLong_7 : decode cX11_putLong 7 = .ok (.aload_n 0, 1) := by decide +kernel
theorem dX11_putLong_8 : decode cX11_putLong 8 = .ok (.lload_n 1, 1) := by decide +kernel
theorem dX11_putLong_9 : decode cX11_putLong 9 = .ok (.iload_n 3, 1) := by decide +kernel
theorem dX11_putLong_10 : decode cX11_putLong 10 = .ok (.lushr, 1) := by decide +kernel
theorem dX11_putLong_11 : decode cX11_putLong 11 = .ok (.l2i, 1) := by decide +kernel
theorem dX11_putLong_12 : decode cX11_putLong 12 = .ok (.invokevirtual 407, 3) := by decide +kernel
theorem dX11_putLong_15 : decode cX11_putLong 15 = .ok (.iinc 3 (-8), 3) := by decide +kernel
theorem dX11_putLong_18 : decode cX11_putLong 18 = .ok (.goto (-15), 3) := by decide +kernel
theorem dX11_putLong_21 : decode cX11_putLong 21 = .ok (.return_, 1) := by decide +kernel
theorem dX11_putTwo_0 : decode cX11_putTwo 0 = .ok (.aload_n 0, 1) := by decide +kernel
theorem dX11_putTwo_1 : decode cX11_putTwo 1 = .ok (.iload_n 1, 1) := by decide +kernel
theorem dX11_putTwo_2 : decode cX11_putTwo 2 = .ok (.bipush 8, 2) := by decide +kernel
theorem dX11_putTwo_4 : decode cX11_putTwo 4 = .ok (.ishr, 1) := by decide +kernel
theorem dX11_putTwo_5 : decode cX11_putTwo 5 = .ok (.invokevirtual 407, 3) := by decide +kernel
theorem dX11_putTwo_8 : decode cX11_putTwo 8 = .ok (.aload_n 0, 1) := by decide +kernel
theorem dX11_putTwo_9 : decode cX11_putTwo 9 = .ok (.iload_n 1, 1) := by decide +kernel
theorem dX11_putTwo_10 : decode cX11_putTwo 10 = .ok (.invokevirtual 407, 3) := by decide +kernel
theorem dX11_putTwo_13 : decode cX11_putTwo 13 = .ok (.return_, 1) := by decide +kernel
theorem dX11_putBits_0 : decode cX11_putBits 0 = .ok (.iload_n 3, 1) := by decide +kernel
theorem dX11_putBits_1 : decode cX11_putBits 1 = .ok (.iconst 1, 1) := by decide +kernel
theorem dX11_putBits_2 : decode cX11_putBits 2 = .ok (.isub, 1) := by decide +kernel
theorem dX11_putBits_3 : decode cX11_putBits 3 = .ok (.istore 4, 2) := by decide +kernel
theorem dX11_putBits_5 : decode cX11_putBits 5 = .ok (.iload 4, 2) := by decide +kernel
theorem dX11_putBits_7 : decode cX11_putBits 7 = .ok (.ifCond .lt 66, 3) := by decide +kernel
theorem dX11_putBits_10 : decode cX11_putBits 10 = .ok (.aload_n 0, 1) := by decide +kernel
theorem dX11_putBits_11 : decode cX11_putBits 11 = .ok (.getfield 410, 3) := by decide +kernel
theorem dX11_putBits_14 : decode cX11_putBits 14 = .ok (.bipush 8, 2) := by decide +kernel
theorem dX11_putBits_16 : decode cX11_putBits 16 = .ok (.irem, 1) := by decide +kernel
theorem dX11_putBits_17 : decode cX11_putBits 17 = .ok (.ifCond .ne 8, 3) := by decide +kernel
theorem dX11_putBits_20 : decode cX11_putBits 20 = .ok (.aload_n 0, 1) := by decide +kernel
theorem dX11_putBits_21 : decode cX11_putBits 21 = .ok (.iconst 0, 1) := by decide +kernel
theorem dX11_putBits_22 : decode cX11_putBits 22 = .ok (.invokevirtual 407, 3) := by decide +kernel
theorem dX11_putBits_25 : decode cX11_putBits 25 = .ok (.aload_n 0, 1) := by decide +kernel
theorem dX11_putBits_26 : decode cX11_putBits 26 = .ok (.getfield 60, 3) := by decide +kernel
theorem dX11_putBits_29 : decode cX11_putBits 29 = .ok (.aload_n 0, 1) := by decide +kernel
theorem dX11_putBits_30 : decode cX11_putBits 30 = .ok (.getfield 251, 3) := by decide +kernel
theorem dX11_putBits_33 : decode cX11_putBits 33 = .ok (.iconst 1, 1) := by decide +kernel
theorem dX11_putBits_34 : decode cX11_putBits 34 = .ok (.isub, 1) := by decide +kernel
theorem dX11_putBits_35 : decode cX11_putBits 35 = .ok (.dup2, 1) := by decide +kernel
theorem dX11_putBits_36 : decode cX11_putBits 36 = .ok (.iaload, 1) := by decide +kernel
theorem dX11_putBits_37 : decode cX11_putBits 37 = .ok (.lload_n 1, 1) := by decide +kernel
theorem dX11_putBits_38 : decode cX11_putBits 38 = .ok (.iload 4, 2) := by decide +kernel
theorem dX11_putBits_40 : decode cX11_putBits 40 = .ok (.lushr, 1) := by decide +kernel
theorem dX11_putBits_41 : decode cX11_putBits 41 = .ok (.lconst 1, 1) := by decide +kernel
theorem dX11_putBits_42 : decode cX11_putBits 42 = .ok (.land, 1) := by decide +kernel
theorem dX11_putBits_43 : decode cX11_putBits 43 = .ok (.l2i, 1) := by decide +kernel
theorem dX11_putBits_44 : decode cX11_putBits 44 = .ok (.bipush 7, 2) := by decide +kernel
theorem dX11_putBits_46 : decode cX11_putBits 46 = .ok (.aload_n 0, 1) := by decide +kernel
theorem dX11_putBits_47 : decode cX11_putBits 47 = .ok (.getfield 410, 3) := by decide +kernel
theorem dX11_putBits_50 : decode cX11_putBits 50 = .ok (.bipush 8, 2) := by decide +kernel
theorem dX11_putBits_52 : decode cX11_putBits 52 = .ok (.irem, 1) := by decide +kernel
theorem dX11_putBits_53 : decode cX11_putBits 53 = .ok (.isub, 1) := by decide +kernel
theorem dX11_putBits_54 : decode cX11_putBits 54 = .ok (.ishl, 1) := by decide +kernel
theorem dX11_putBits_55 : decode cX11_putBits 55 = .ok (.ior, 1) := by decide +kernel
theorem dX11_putBits_56 : decode cX11_putBits 56 = .ok (.iastore, 1) := by decide +kernel
theorem dX11_putBits_57 : decode cX11_putBits 57 = .ok (.aload_n 0, 1) := by decide +kernel
theorem dX11_putBits_58 : decode cX11_putBits 58 = .ok (.dup, 1) := by decide +kernel
theorem dX11_putBits_59 : decode cX11_putBits 59 = .ok (.getfield 410, 3) := by decide +kernel
theorem dX11_putBits_62 : decode cX11_putBits 62 = .ok (.iconst 1, 1) := by decide +kernel
theorem dX11_putBits_63 : decode cX11_putBits 63 = .ok (.iadd, 1) := by decide +kernel
theorem dX11_putBits_64 : decode cX11_putBits 64 = .ok (.putfield 410, 3) := by decide +kernel
theorem dX11_putBits_67 : decode cX11_putBits 67 = .ok (.iinc 4 (-1), 3) := by decide +kernel
theorem dX11_putBits_70 : decode cX11_putBits 70 = .ok (.goto (-65), 3) := by decide +kernel
theorem dX11_putBits_73 : decode cX11_putBits 73 = .ok (.return_, 1) := by decide +kernel
theorem dX11_writeDecimal_0 : decode cX11_writeDecimal 0 = .ok (.aload_n 0, 1) := by decide +kernel
theorem dX11_writeDecimal_1 : decode cX11_writeDecimal 1 = .ok (.getfield 348, 3) := by decide +kernel
theorem dX11_writeDecimal_4 : decode cX11_writeDecimal 4 = .ok (.bipush 16, 2) := by decide +kernel
theorem dX11_writeDecimal_6 : decode cX11_writeDecimal 6 = .ok (.idiv, 1) := by decide +kernel
theorem dX11_writeDecimal_7 : decode cX11_writeDecimal 7 = .ok (.istore_n 1, 1) := by decide +kernel
theorem dX11_writeDecimal_8 : decode cX11_writeDecimal 8 = .ok (.aload_n 0, 1) := by decide +kernel
theorem dX11_writeDecimal_9 : decode cX11_writeDecimal 9 = .ok (.getfield 348, 3) := by decide +kernel
theorem dX11_writeDecimal_12 : decode cX11_writeDecimal 12 = .ok (.bipush 16, 2) := by decide +kernel
theorem dX11_writeDecimal_14 : decode cX11_writeDecimal 14 = .ok (.irem, 1) := by decide +kernel
theorem dX11_writeDecimal_15 : decode cX11_writeDecimal 15 = .ok (.istore_n 2, 1) := by decide +kernel
theorem dX11_writeDecimal_16 : decode cX11_writeDecimal 16 = .ok (.aload_n 0, 1) := by decide +kernel
theorem dX11_writeDecimal_17 : decode cX11_writeDecimal 17 = .ok (.iload_n 1, 1) := by decide +kernel
theorem dX11_writeDecimal_18 : decode cX11_writeDecimal 18 = .ok (.iload_n 2, 1) := by decide +kernel
theorem dX11_writeDecimal_19 : decode cX11_writeDecimal 19 = .ok (.invokevirtual 307, 3) := by decide +kernel
theorem dX11_writeDecimal_22 : decode cX11_writeDecimal 22 = .ok (.aload_n 0, 1) := by decide +kernel
theorem dX11_writeDecimal_23 : decode cX11_writeDecimal 23 = .ok (.iload_n 1, 1) := by decide +kernel
theorem dX11_writeDecimal_24 : decode cX11_writeDecimal 24 = .ok (.invokevirtual 407, 3) := by decide +kernel
theorem dX11_writeDecimal_27 : decode cX11_writeDecimal 27 = .ok (.aload_n 0, 1) := by decide +kernel
theorem dX11_writeDecimal_28 : decode cX11_writeDecimal 28 = .ok (.iload_n 2, 1) := by decide +kernel
theorem dX11_writeDecimal_29 : decode cX11_writeDecimal 29 = .ok (.invokevirtual 407, 3) := by decide +kernel
theorem dX11_writeDecimal_32 : decode cX11_writeDecimal 32 = .ok (.aload_n 0, 1) := by decide +kernel
theorem dX11_writeDecimal_33 : decode cX11_writeDecimal 33 = .ok (.aload_n 0, 1) := by decide +kernel
theorem dX11_writeDecimal_34 : decode cX11_writeDecimal 34 = .ok (.getfield 289, 3) := by decide +kernel
theorem dX11_writeDecimal_37 : decode cX11_writeDecimal 37 = .ok (.invokestatic 314, 3) := by decide +kernel
theorem dX11_writeDecimal_40 : decode cX11_writeDecimal 40 = .ok (.invokevirtual 407, 3) := by decide +kernel
theorem dX11_writeDecimal_43 : decode cX11_writeDecimal 43 = .ok (.aload_n 0, 1) := by decide +kernel
theorem dX11_writeDecimal_44 : decode cX11_writeDecimal 44 = .ok (.aload_n 0, 1) := by decide +kernel
theorem dX11_writeDecimal_45 : decode cX11_writeDecimal 45 = .ok (.getfield 292, 3) := by decide +kernel
theorem dX11_writeDecimal_48 : decode cX11_writeDecimal 48 = .ok (.invokevirtual 413, 3) := by decide +kernel
theorem dX11_writeDecimal_51 : decode cX11_writeDecimal 51 = .ok (.aload_n 0, 1) := by decide +kernel
theorem dX11_writeDecimal_52 : decode cX11_writeDecimal 52 = .ok (.aload_n 0, 1) := by decide +kernel
theorem dX11_writeDecimal_53 : decode cX11_writeDecimal 53 = .ok (.getfield 304, 3) := by decide +kernel
theorem dX11_writeDecimal_56 : decode cX11_writeDecimal 56 = .ok (.invokevirtual 407, 3) := by decide +kernel
theorem dX11_writeDecimal_59 : decode cX11_writeDecimal 59 = .ok (.iconst 0, 1) := by decide +kernel
theorem dX11_writeDecimal_60 : decode cX11_writeDecimal 60 = .ok (.istore_n 3, 1) := by decide +kernel
theorem dX11_writeDecimal_61 : decode cX11_writeDecimal 61 = .ok (.iload_n 3, 1) := by decide +kernel
theorem dX11_writeDecimal_62 : decode cX11_writeDecimal 62 = .ok (.aload_n 0, 1) := by decide +kernel
theorem dX11_writeDecimal_63 : decode cX11_writeDecimal 63 = .ok (.getfield 286, 3) := by decide +kernel
theorem dX11_writeDecimal_66 : decode cX11_writeDecimal 66 = .ok (.if_icmp .ge 49, 3) := by decide +kernel
theorem dX11_writeDecimal_69 : decode cX11_writeDecimal 69 = .ok (.aload_n 0, 1) := by decide +kernel
theorem dX11_writeDecimal_70 : decode cX11_writeDecimal 70 = .ok (.aload_n 0, 1) := by decide +kernel
theorem dX11_writeDecimal_71 : decode cX11_writeDecimal 71 = .ok (.getfield 289, 3) := by decide +kernel
theorem dX11_writeDecimal_74 : decode cX11_writeDecimal 74 = .ok (.iload_n 3, 1) := by decide +kernel
theorem dX11_writeDecimal_75 : decode cX11_writeDecimal 75 = .ok (.invokestatic 127, 3) := by decide +kernel
theorem dX11_writeDecimal_78 : decode cX11_writeDecimal 78 = .ok (.ifCond .eq 7, 3) := by decide +kernel
theorem dX11_writeDecimal_81 : decode cX11_writeDecimal 81 = .ok (.lconst 0, 1) := by decide +kernel
theorem dX11_writeDecimal_82 : decode cX11_writeDecimal 82 = .ok (.goto 20, 3) := by decide +kernel
theorem dX11_writeDecimal_85 : decode cX11_writeDecimal 85 = .ok (.aload_n 0, 1) := by decide +kernel
theorem dX11_writeDecimal_86 : decode cX11_writeDecimal 86 = .ok (.aload_n 0, 1) := by decide +kernel
theorem dX11_writeDecimal_87 : decode cX11_writeDecimal 87 = .ok (.getfield 45, 3) := by decide +kernel
theorem dX11_writeDecimal_90 : decode cX11_writeDecimal 90 = .ok (.iload_n 3, 1) := by decide +kernel
theorem dX11_writeDecimal_91 : decode cX11_writeDecimal 91 = .ok (.laload, 1) := by decide +kernel
theorem dX11_writeDecimal_92 : decode cX11_writeDecimal 92 = .ok (.iload_n 1, 1) := by decide +kernel
theorem dX11_writeDecimal_93 : decode cX11_writeDecimal 93 = .ok (.iload_n 2, 1) := by decide +kernel
theorem dX11_writeDecimal_94 : decode cX11_writeDecimal 94 = .ok (.invokevirtual 274, 3) := by decide +kernel
theorem dX11_writeDecimal_97 : decode cX11_writeDecimal 97 = .ok (.aload_n 0, 1) := by decide +kernel
theorem dX11_writeDecimal_98 : decode cX11_writeDecimal 98 = .ok (.getfield 292, 3) := by decide +kernel
theorem dX11_writeDecimal_101 : decode cX11_writeDecimal 101 = .ok (.lsub, 1) := by decide +kernel
theorem dX11_writeDecimal_102 : decode cX11_writeDecimal 102 = .ok (.aload_n 0, 1) := by decide +kernel
theorem dX11_writeDecimal_103 : decode cX11_writeDecimal 103 = .ok (.getfield 304, 3) := by decide +kernel
theorem dX11_writeDecimal_106 : decode cX11_writeDecimal 106 = .ok (.invokevirtual 417, 3) := by decide +kernel
theorem dX11_writeDecimal_109 : decode cX11_writeDecimal 109 = .ok (.iinc 3 1, 3) := by decide +kernel
theorem dX11_writeDecimal_112 : decode cX11_writeDecimal 112 = .ok (.goto (-51), 3) := by decide +kernel
theorem dX11_writeDecimal_115 : decode cX11_writeDecimal 115 = .ok (.iconst 0, 1) := by decide +kernel
theorem dX11_writeDecimal_116 : decode cX11_writeDecimal 116 = .ok (.istore_n 3, 1) := by decide +kernel
theorem dX11_writeDecimal_117 : decode cX11_writeDecimal 117 = .ok (.iload_n 3, 1) := by decide +kernel
theorem dX11_writeDecimal_118 : decode cX11_writeDecimal 118 = .ok (.aload_n 0, 1) := by decide +kernel
theorem dX11_writeDecimal_119 : decode cX11_writeDecimal 119 = .ok (.getfield 286, 3) := by decide +kernel
theorem dX11_writeDecimal_122 : decode cX11_writeDecimal 122 = .ok (.if_icmp .ge 35, 3) := by decide +kernel
theorem dX11_writeDecimal_125 : decode cX11_writeDecimal 125 = .ok (.aload_n 0, 1) := by decide +kernel
theorem dX11_writeDecimal_126 : decode cX11_writeDecimal 126 = .ok (.getfield 289, 3) := by decide +kernel
theorem dX11_writeDecimal_129 : decode cX11_writeDecimal 129 = .ok (.iload_n 3, 1) := by decide +kernel
theorem dX11_writeDecimal_130 : decode cX11_writeDecimal 130 = .ok (.invokestatic 127, 3) := by decide +kernel
theorem dX11_writeDecimal_133 : decode cX11_writeDecimal 133 = .ok (.ifCond .eq 18, 3) := by decide +kernel
theorem dX11_writeDecimal_136 : decode cX11_writeDecimal 136 = .ok (.aload_n 0, 1) := by decide +kernel
theorem dX11_writeDecimal_137 : decode cX11_writeDecimal 137 = .ok (.iload_n 3, 1) := by decide +kernel
theorem dX11_writeDecimal_138 : decode cX11_writeDecimal 138 = .ok (.invokevirtual 407, 3) := by decide +kernel
theorem dX11_writeDecimal_141 : decode cX11_writeDecimal 141 = .ok (.aload_n 0, 1) := by decide +kernel
theorem dX11_writeDecimal_142 : decode cX11_writeDecimal 142 = .ok (.aload_n 0, 1) := by decide +kernel
theorem dX11_writeDecimal_143 : decode cX11_writeDecimal 143 = .ok (.getfield 45, 3) := by decide +kernel
theorem dX11_writeDecimal_146 : decode cX11_writeDecimal 146 = .ok (.iload_n 3, 1) := by decide +kernel
theorem dX11_writeDecimal_147 : decode cX11_writeDecimal 147 = .ok (.laload, 1) := by decide +kernel
theorem dX11_writeDecimal_148 : decode cX11_writeDecimal 148 = .ok (.invokevirtual 413, 3) := by decide +kernel
theorem dX11_writeDecimal_151 : decode cX11_writeDecimal 151 = .ok (.iinc 3 1, 3) := by decide +kernel
theorem dX11_writeDecimal_154 : decode cX11_writeDecimal 154 = .ok (.goto (-37), 3) := by decide +kernel
theorem dX11_writeDecimal_157 : decode cX11_writeDecimal 157 = .ok (.return_, 1) := by decide +kernel
theorem dX11_writeSplit_0 : decode cX11_writeSplit 0 = .ok (.aload_n 0, 1) := by decide +kernel
theorem dX11_writeSplit_1 : decode cX11_writeSplit 1 = .ok (.invokevirtual 326, 3) := by decide +kernel
theorem dX11_writeSplit_4 : decode cX11_writeSplit 4 = .ok (.aload_n 0, 1) := by decide +kernel
theorem dX11_writeSplit_5 : decode cX11_writeSplit 5 = .ok (.getfield 36, 3) := by decide +kernel
theorem dX11_writeSplit_8 : decode cX11_writeSplit 8 = .ok (.iconst 3, 1) := by decide +kernel
theorem dX11_writeSplit_9 : decode cX11_writeSplit 9 = .ok (.iaload, 1) := by decide +kernel
theorem dX11_writeSplit_10 : decode cX11_writeSplit 10 = .ok (.istore_n 1, 1) := by decide +kernel
theorem dX11_writeSplit_11 : decode cX11_writeSplit 11 = .ok (.aload_n 0, 1) := by decide +kernel
theorem dX11_writeSplit_12 : decode cX11_writeSplit 12 = .ok (.iload_n 1, 1) := by decide +kernel
theorem dX11_writeSplit_13 : decode cX11_writeSplit 13 = .ok (.invokevirtual 407, 3) := by decide +kernel
theorem dX11_writeSplit_16 : decode cX11_writeSplit 16 = .ok (.aload_n 0, 1) := by decide +kernel
theorem dX11_writeSplit_17 : decode cX11_writeSplit 17 = .ok (.aload_n 0, 1) := by decide +kernel
theorem dX11_writeSplit_18 : decode cX11_writeSplit 18 = .ok (.getfield 320, 3) := by decide +kernel
theorem dX11_writeSplit_21 : decode cX11_writeSplit 21 = .ok (.invokevirtual 407, 3) := by decide +kernel
theorem dX11_writeSplit_24 : decode cX11_writeSplit 24 = .ok (.iconst 0, 1) := by decide +kernel
theorem dX11_writeSplit_25 : decode cX11_writeSplit 25 = .ok (.istore_n 2, 1) := by decide +kernel
theorem dX11_writeSplit_26 : decode cX11_writeSplit 26 = .ok (.iload_n 2, 1) := by decide +kernel
theorem dX11_writeSplit_27 : decode cX11_writeSplit 27 = .ok (.aload_n 0, 1) := by decide +kernel
theorem dX11_writeSplit_28 : decode cX11_writeSplit 28 = .ok (.getfield 320, 3) := by decide +kernel
theorem dX11_writeSplit_31 : decode cX11_writeSplit 31 = .ok (.if_icmp .ge 19, 3) := by decide +kernel
theorem dX11_writeSplit_34 : decode cX11_writeSplit 34 = .ok (.aload_n 0, 1) := by decide +kernel
theorem dX11_writeSplit_35 : decode cX11_writeSplit 35 = .ok (.aload_n 0, 1) := by decide +kernel
theorem dX11_writeSplit_36 : decode cX11_writeSplit 36 = .ok (.getfield 48, 3) := by decide +kernel
theorem dX11_writeSplit_39 : decode cX11_writeSplit 39 = .ok (.iload_n 2, 1) := by decide +kernel
theorem dX11_writeSplit_40 : decode cX11_writeSplit 40 = .ok (.iaload, 1) := by decide +kernel
theorem dX11_writeSplit_41 : decode cX11_writeSplit 41 = .ok (.invokevirtual 421, 3) := by decide +kernel
theorem dX11_writeSplit_44 : decode cX11_writeSplit 44 = .ok (.iinc 2 1, 3) := by decide +kernel
theorem dX11_writeSplit_47 : decode cX11_writeSplit 47 = .ok (.goto (-21), 3) := by decide +kernel
theorem dX11_writeSplit_50 : decode cX11_writeSplit 50 = .ok (.aload_n 0, 1) := by decide +kernel
theorem dX11_writeSplit_51 : decode cX11_writeSplit 51 = .ok (.aload_n 0, 1) := by decide +kernel
theorem dX11_writeSplit_52 : decode cX11_writeSplit 52 = .ok (.getfield 289, 3) := by decide +kernel
theorem dX11_writeSplit_55 : decode cX11_writeSplit 55 = .ok (.invokestatic 314, 3) := by decide +kernel
theorem dX11_writeSplit_58 : decode cX11_writeSplit 58 = .ok (.invokevirtual 407, 3) := by decide +kernel
theorem dX11_writeSplit_61 : decode cX11_writeSplit 61 = .ok (.iconst 0, 1) := by decide +kernel
theorem dX11_writeSplit_62 : decode cX11_writeSplit 62 = .ok (.istore_n 2, 1) := by decide +kernel
theorem dX11_writeSplit_63 : decode cX11_writeSplit 63 = .ok (.iload_n 2, 1) := by decide +kernel
theorem dX11_writeSplit_64 : decode cX11_writeSplit 64 = .ok (.aload_n 0, 1) := by decide +kernel
theorem dX11_writeSplit_65 : decode cX11_writeSplit 65 = .ok (.getfield 286, 3) := by decide +kernel
theorem dX11_writeSplit_68 : decode cX11_writeSplit 68 = .ok (.if_icmp .ge 52, 3) := by decide +kernel
theorem dX11_writeSplit_71 : decode cX11_writeSplit 71 = .ok (.aload_n 0, 1) := by decide +kernel
theorem dX11_writeSplit_72 : decode cX11_writeSplit 72 = .ok (.iconst 0, 1) := by decide +kernel
theorem dX11_writeSplit_73 : decode cX11_writeSplit 73 = .ok (.aload_n 0, 1) := by decide +kernel
theorem dX11_writeSplit_74 : decode cX11_writeSplit 74 = .ok (.aload_n 0, 1) := by decide +kernel
theorem dX11_writeSplit_75 : decode cX11_writeSplit 75 = .ok (.getfield 45, 3) := by decide +kernel
theorem dX11_writeSplit_78 : decode cX11_writeSplit 78 = .ok (.iload_n 2, 1) := by decide +kernel
theorem dX11_writeSplit_79 : decode cX11_writeSplit 79 = .ok (.laload, 1) := by decide +kernel
theorem dX11_writeSplit_80 : decode cX11_writeSplit 80 = .ok (.invokevirtual 323, 3) := by decide +kernel
theorem dX11_writeSplit_83 : decode cX11_writeSplit 83 = .ok (.invokestatic 401, 3) := by decide +kernel
theorem dX11_writeSplit_86 : decode cX11_writeSplit 86 = .ok (.i2l, 1) := by decide +kernel
theorem dX11_writeSplit_87 : decode cX11_writeSplit 87 = .ok (.aload_n 0, 1) := by decide +kernel
theorem dX11_writeSplit_88 : decode cX11_writeSplit 88 = .ok (.getfield 320, 3) := by decide +kernel
theorem dX11_writeSplit_91 : decode cX11_writeSplit 91 = .ok (.iconst 1, 1) := by decide +kernel
theorem dX11_writeSplit_92 : decode cX11_writeSplit 92 = .ok (.isub, 1) := by decide +kernel
theorem dX11_writeSplit_93 : decode cX11_writeSplit 93 = .ok (.i2l, 1) := by decide +kernel
theorem dX11_writeSplit_94 : decode cX11_writeSplit 94 = .ok (.invokestatic 217, 3) := by decide +kernel
theorem dX11_writeSplit_97 : decode cX11_writeSplit 97 = .ok (.invokevirtual 417, 3) := by decide +kernel
theorem dX11_writeSplit_100 : decode cX11_writeSplit 100 = .ok (.aload_n 0, 1) := by decide +kernel
theorem dX11_writeSplit_101 : decode cX11_writeSplit 101 = .ok (.aload_n 0, 1) := by decide +kernel
theorem dX11_writeSplit_102 : decode cX11_writeSplit 102 = .ok (.getfield 45, 3) := by decide +kernel
theorem dX11_writeSplit_105 : decode cX11_writeSplit 105 = .ok (.iload_n 2, 1) := by decide +kernel
theorem dX11_writeSplit_106 : decode cX11_writeSplit 106 = .ok (.laload, 1) := by decide +kernel
theorem dX11_writeSplit_107 : decode cX11_writeSplit 107 = .ok (.bipush 64, 2) := by decide +kernel
theorem dX11_writeSplit_109 : decode cX11_writeSplit 109 = .ok (.iload_n 1, 1) := by decide +kernel
theorem dX11_writeSplit_110 : decode cX11_writeSplit 110 = .ok (.isub, 1) := by decide +kernel
theorem dX11_writeSplit_111 : decode cX11_writeSplit 111 = .ok (.invokevirtual 417, 3) := by decide +kernel
theorem dX11_writeSplit_114 : decode cX11_writeSplit 114 = .ok (.iinc 2 1, 3) := by decide +kernel
theorem dX11_writeSplit_117 : decode cX11_writeSplit 117 = .ok (.goto (-54), 3) := by decide +kernel
theorem dX11_writeSplit_120 : decode cX11_writeSplit 120 = .ok (.iconst 0, 1) := by decide +kernel
theorem dX11_writeSplit_121 : decode cX11_writeSplit 121 = .ok (.istore_n 2, 1) := by decide +kernel
theorem dX11_writeSplit_122 : decode cX11_writeSplit 122 = .ok (.iload_n 2, 1) := by decide +kernel
theorem dX11_writeSplit_123 : decode cX11_writeSplit 123 = .ok (.aload_n 0, 1) := by decide +kernel
theorem dX11_writeSplit_124 : decode cX11_writeSplit 124 = .ok (.getfield 286, 3) := by decide +kernel
theorem dX11_writeSplit_127 : decode cX11_writeSplit 127 = .ok (.if_icmp .ge 39, 3) := by decide +kernel
theorem dX11_writeSplit_130 : decode cX11_writeSplit 130 = .ok (.aload_n 0, 1) := by decide +kernel
theorem dX11_writeSplit_131 : decode cX11_writeSplit 131 = .ok (.getfield 289, 3) := by decide +kernel
theorem dX11_writeSplit_134 : decode cX11_writeSplit 134 = .ok (.iload_n 2, 1) := by decide +kernel
theorem dX11_writeSplit_135 : decode cX11_writeSplit 135 = .ok (.invokestatic 127, 3) := by decide +kernel
theorem dX11_writeSplit_138 : decode cX11_writeSplit 138 = .ok (.ifCond .eq 22, 3) := by decide +kernel
theorem dX11_writeSplit_141 : decode cX11_writeSplit 141 = .ok (.aload_n 0, 1) := by decide +kernel
theorem dX11_writeSplit_142 : decode cX11_writeSplit 142 = .ok (.iload_n 2, 1) := by decide +kernel
theorem dX11_writeSplit_143 : decode cX11_writeSplit 143 = .ok (.invokevirtual 407, 3) := by decide +kernel
theorem dX11_writeSplit_146 : decode cX11_writeSplit 146 = .ok (.aload_n 0, 1) := by decide +kernel
theorem dX11_writeSplit_147 : decode cX11_writeSplit 147 = .ok (.aload_n 0, 1) := by decide +kernel
theorem dX11_writeSplit_148 : decode cX11_writeSplit 148 = .ok (.aload_n 0, 1) := by decide +kernel
theorem dX11_writeSplit_149 : decode cX11_writeSplit 149 = .ok (.getfield 45, 3) := by decide +kernel
theorem dX11_writeSplit_152 : decode cX11_writeSplit 152 = .ok (.iload_n 2, 1) := by decide +kernel
theorem dX11_writeSplit_153 : decode cX11_writeSplit 153 = .ok (.laload, 1) := by decide +kernel
theorem dX11_writeSplit_154 : decode cX11_writeSplit 154 = .ok (.invokevirtual 317, 3) := by decide +kernel
theorem dX11_writeSplit_157 : decode cX11_writeSplit 157 = .ok (.invokevirtual 421, 3) := by decide +kernel
theorem dX11_writeSplit_160 : decode cX11_writeSplit 160 = .ok (.iinc 2 1, 3) := by decide +kernel
theorem dX11_writeSplit_163 : decode cX11_writeSplit 163 = .ok (.goto (-41), 3) := by decide +kernel
theorem dX11_writeSplit_166 : decode cX11_writeSplit 166 = .ok (.return_, 1) := by decide +kernel
theorem dX11_write_0 : decode cX11_write 0 = .ok (.aload_n 0, 1) := by decide +kernel
theorem dX11_write_1 : decode cX11_write 1 = .ok (.iload_n 1, 1) := by decide +kernel
theorem dX11_write_2 : decode cX11_write 2 = .ok (.invokevirtual 398, 3) := by decide +kernel
theorem dX11_write_5 : decode cX11_write 5 = .ok (.ifCond .ne 5, 3) := by decide +kernel
theorem dX11_write_8 : decode cX11_write 8 = .ok (.iconst (-1), 1) := by decide +kernel
theorem dX11_write_9 : decode cX11_write 9 = .ok (.ireturn, 1) := by decide +kernel
theorem dX11_write_10 : decode cX11_write 10 = .ok (.aload_n 0, 1) := by decide +kernel
theorem dX11_write_11 : decode cX11_write 11 = .ok (.invokevirtual 369, 3) := by decide +kernel
theorem dX11_write_14 : decode cX11_write 14 = .ok (.aload_n 0, 1) := by decide +kernel
theorem dX11_write_15 : decode cX11_write 15 = .ok (.iload_n 1, 1) := by decide +kernel
theorem dX11_write_16 : decode cX11_write 16 = .ok (.invokevirtual 372, 3) := by decide +kernel
theorem dX11_write_19 : decode cX11_write 19 = .ok (.aload_n 0, 1) := by decide +kernel
theorem dX11_write_20 : decode cX11_write 20 = .ok (.iconst 0, 1) := by decide +kernel
theorem dX11_write_21 : decode cX11_write 21 = .ok (.putfield 251, 3) := by decide +kernel
theorem dX11_write_24 : decode cX11_write 24 = .ok (.aload_n 0, 1) := by decide +kernel
theorem dX11_write_25 : decode cX11_write 25 = .ok (.iconst 0, 1) := by decide +kernel
theorem dX11_write_26 : decode cX11_write 26 = .ok (.putfield 410, 3) := by decide +kernel
theorem dX11_write_29 : decode cX11_write 29 = .ok (.aload_n 0, 1) := by decide +kernel
theorem dX11_write_30 : decode cX11_write 30 = .ok (.aload_n 0, 1) := by decide +kernel
theorem dX11_write_31 : decode cX11_write 31 = .ok (.getfield 360, 3) := by decide +kernel
theorem dX11_write_34 : decode cX11_write 34 = .ok (.invokevirtual 407, 3) := by decide +kernel
theorem dX11_write_37 : decode cX11_write 37 = .ok (.aload_n 0, 1) := by decide +kernel
theorem dX11_write_38 : decode cX11_write 38 = .ok (.aload_n 0, 1) := by decide +kernel
theorem dX11_write_39 : decode cX11_write 39 = .ok (.getfield 286, 3) := by decide +kernel
theorem dX11_write_42 : decode cX11_write 42 = .ok (.invokevirtual 407, 3) := by decide +kernel
theorem dX11_write_45 : decode cX11_write 45 = .ok (.aload_n 0, 1) := by decide +kernel
theorem dX11_write_46 : decode cX11_write 46 = .ok (.getfield 360, 3) := by decide +kernel
theorem dX11_write_49 : decode cX11_write 49 = .ok (.iconst 1, 1) := by decide +kernel
theorem dX11_write_50 : decode cX11_write 50 = .ok (.if_icmp .ne 10, 3) := by decide +kernel
theorem dX11_write_53 : decode cX11_write 53 = .ok (.aload_n 0, 1) := by decide +kernel
theorem dX11_write_54 : decode cX11_write 54 = .ok (.invokevirtual 424, 3) := by decide +kernel
theorem dX11_write_57 : decode cX11_write 57 = .ok (.goto 44, 3) := by decide +kernel
theorem dX11_write_60 : decode cX11_write 60 = .ok (.aload_n 0, 1) := by decide +kernel
theorem dX11_write_61 : decode cX11_write 61 = .ok (.getfield 360, 3) := by decide +kernel
theorem dX11_write_64 : decode cX11_write 64 = .ok (.iconst 2, 1) := by decide +kernel
theorem dX11_write_65 : decode cX11_write 65 = .ok (.if_icmp .ne 10, 3) := by decide +kernel
theorem dX11_write_68 : decode cX11_write 68 = .ok (.aload_n 0, 1) := by decide +kernel
theorem dX11_write_69 : decode cX11_write 69 = .ok (.invokevirtual 427, 3) := by decide +kernel
theorem dX11_write_72 : decode cX11_write 72 = .ok (.goto 29, 3) := by decide +kernel
theorem dX11_write_75 : decode cX11_write 75 = .ok (.iconst 0, 1) := by decide +kernel
theorem dX11_write_76 : decode cX11_write 76 = .ok (.istore_n 2, 1) := by decide +kernel
theorem dX11_write_77 : decode cX11_write 77 = .ok (.iload_n 2, 1) := by decide +kernel
theorem dX11_write_78 : decode cX11_write 78 = .ok (.aload_n 0, 1) := by decide +kernel
theorem dX11_write_79 : decode cX11_write 79 = .ok (.getfield 286, 3) := by decide +kernel
theorem dX11_write_82 : decode cX11_write 82 = .ok (.if_icmp .ge 19, 3) := by decide +kernel
theorem dX11_write_85 : decode cX11_write 85 = .ok (.aload_n 0, 1) := by decide +kernel
theorem dX11_write_86 : decode cX11_write 86 = .ok (.aload_n 0, 1) := by decide +kernel
theorem dX11_write_87 : decode cX11_write 87 = .ok (.getfield 45, 3) := by decide +kernel
theorem dX11_write_90 : decode cX11_write 90 = .ok (.iload_n 2, 1) := by decide +kernel
theorem dX11_write_91 : decode cX11_write 91 = .ok (.laload, 1) := by decide +kernel
theorem dX11_write_92 : decode cX11_write 92 = .ok (.invokevirtual 413, 3) := by decide +kernel
theorem dX11_write_95 : decode cX11_write 95 = .ok (.iinc 2 1, 3) := by decide +kernel
theorem dX11_write_98 : decode cX11_write 98 = .ok (.goto (-21), 3) := by decide +kernel
theorem dX11_write_101 : decode cX11_write 101 = .ok (.bipush 7, 2) := by decide +kernel
theorem dX11_write_103 : decode cX11_write 103 = .ok (.istore_n 2, 1) := by decide +kernel
theorem dX11_write_104 : decode cX11_write 104 = .ok (.iconst 0, 1) := by decide +kernel
theorem dX11_write_105 : decode cX11_write 105 = .ok (.istore_n 3, 1) := by decide +kernel
theorem dX11_write_106 : decode cX11_write 106 = .ok (.iload_n 3, 1) := by decide +kernel
theorem dX11_write_107 : decode cX11_write 107 = .ok (.aload_n 0, 1) := by decide +kernel
theorem dX11_write_108 : decode cX11_write 108 = .ok (.getfield 251, 3) := by decide +kernel
theorem dX11_write_111 : decode cX11_write 111 = .ok (.if_icmp .ge 25, 3) := by decide +kernel
theorem dX11_write_114 : decode cX11_write 114 = .ok (.bipush 31, 2) := by decide +kernel
theorem dX11_write_116 : decode cX11_write 116 = .ok (.iload_n 2, 1) := by decide +kernel
theorem dX11_write_117 : decode cX11_write 117 = .ok (.imul, 1) := by decide +kernel
theorem dX11_write_118 : decode cX11_write 118 = .ok (.aload_n 0, 1) := by decide +kernel
theorem dX11_write_119 : decode cX11_write 119 = .ok (.getfield 60, 3) := by decide +kernel
theorem dX11_write_122 : decode cX11_write 122 = .ok (.iload_n 3, 1) := by decide +kernel
theorem dX11_write_123 : decode cX11_write 123 = .ok (.iaload, 1) := by decide +kernel
theorem dX11_write_124 : decode cX11_write 124 = .ok (.iadd, 1) := by decide +kernel
theorem dX11_write_125 : decode cX11_write 125 = .ok (.sipush 251, 3) := by decide +kernel
theorem dX11_write_128 : decode cX11_write 128 = .ok (.irem, 1) := by decide +kernel
theorem dX11_write_129 : decode cX11_write 129 = .ok (.istore_n 2, 1) := by decide +kernel
theorem dX11_write_130 : decode cX11_write 130 = .ok (.iinc 3 1, 3) := by decide +kernel
theorem dX11_write_133 : decode cX11_write 133 = .ok (.goto (-27), 3) := by decide +kernel
theorem dX11_write_136 : decode cX11_write 136 = .ok (.aload_n 0, 1) := by decide +kernel
theorem dX11_write_137 : decode cX11_write 137 = .ok (.iload_n 2, 1) := by decide +kernel
theorem dX11_write_138 : decode cX11_write 138 = .ok (.invokevirtual 407, 3) := by decide +kernel
theorem dX11_write_141 : decode cX11_write 141 = .ok (.aload_n 0, 1) := by decide +kernel
theorem dX11_write_142 : decode cX11_write 142 = .ok (.getfield 251, 3) := by decide +kernel
theorem dX11_write_145 : decode cX11_write 145 = .ok (.ireturn, 1) := by decide +kernel
theorem dX11_octet_0 : decode cX11_octet 0 = .ok (.iload_n 1, 1) := by decide +kernel
theorem dX11_octet_1 : decode cX11_octet 1 = .ok (.iconst 0, 1) := by decide +kernel
theorem dX11_octet_2 : decode cX11_octet 2 = .ok (.aload_n 0, 1) := by decide +kernel
theorem dX11_octet_3 : decode cX11_octet 3 = .ok (.getfield 251, 3) := by decide +kernel
theorem dX11_octet_6 : decode cX11_octet 6 = .ok (.iconst 1, 1) := by decide +kernel
theorem dX11_octet_7 : decode cX11_octet 7 = .ok (.isub, 1) := by decide +kernel
theorem dX11_octet_8 : decode cX11_octet 8 = .ok (.invokestatic 99, 3) := by decide +kernel
theorem dX11_octet_11 : decode cX11_octet 11 = .ok (.ifCond .eq 12, 3) := by decide +kernel
theorem dX11_octet_14 : decode cX11_octet 14 = .ok (.aload_n 0, 1) := by decide +kernel
theorem dX11_octet_15 : decode cX11_octet 15 = .ok (.getfield 60, 3) := by decide +kernel
theorem dX11_octet_18 : decode cX11_octet 18 = .ok (.iload_n 1, 1) := by decide +kernel
theorem dX11_octet_19 : decode cX11_octet 19 = .ok (.iaload, 1) := by decide +kernel
theorem dX11_octet_20 : decode cX11_octet 20 = .ok (.goto 4, 3) := by decide +kernel
theorem dX11_octet_23 : decode cX11_octet 23 = .ok (.iconst (-1), 1) := by decide +kernel
theorem dX11_octet_24 : decode cX11_octet 24 = .ok (.ireturn, 1) := by decide +kernel
theorem dX11_keep_0 : decode cX11_keep 0 = .ok (.aload_n 0, 1) := by decide +kernel
theorem dX11_keep_1 : decode cX11_keep 1 = .ok (.getfield 248, 3) := by decide +kernel
theorem dX11_keep_4 : decode cX11_keep 4 = .ok (.bipush 40, 2) := by decide +kernel
theorem dX11_keep_6 : decode cX11_keep 6 = .ok (.if_icmp .ne 148, 3) := by decide +kernel
theorem dX11_keep_9 : decode cX11_keep 9 = .ok (.bipush 64, 2) := by decide +kernel
theorem dX11_keep_11 : decode cX11_keep 11 = .ok (.istore_n 1, 1) := by decide +kernel
theorem dX11_keep_12 : decode cX11_keep 12 = .ok (.iload_n 1, 1) := by decide +kernel
theorem dX11_keep_13 : decode cX11_keep 13 = .ok (.sipush 2560, 3) := by decide +kernel
theorem dX11_keep_16 : decode cX11_keep 16 = .ok (.if_icmp .ge 24, 3) := by decide +kernel
theorem dX11_keep_19 : decode cX11_keep 19 = .ok (.aload_n 0, 1) := by decide +kernel
theorem dX11_keep_20 : decode cX11_keep 20 = .ok (.getfield 63, 3) := by decide +kernel
theorem dX11_keep_23 : decode cX11_keep 23 = .ok (.iload_n 1, 1) := by decide +kernel
theorem dX11_keep_24 : decode cX11_keep 24 = .ok (.bipush 64, 2) := by decide +kernel
theorem dX11_keep_26 : decode cX11_keep 26 = .ok (.isub, 1) := by decide +kernel
theorem dX11_keep_27 : decode cX11_keep 27 = .ok (.aload_n 0, 1) := by decide +kernel
theorem dX11_keep_28 : decode cX11_keep 28 = .ok (.getfield 63, 3) := by decide +kernel
theorem dX11_keep_31 : decode cX11_keep 31 = .ok (.iload_n 1, 1) := by decide +kernel
theorem dX11_keep_32 : decode cX11_keep 32 = .ok (.laload, 1) := by decide +kernel
theorem dX11_keep_33 : decode cX11_keep 33 = .ok (.lastore, 1) := by decide +kernel
theorem dX11_keep_34 : decode cX11_keep 34 = .ok (.iinc 1 1, 3) := by decide +kernel
theorem dX11_keep_37 : decode cX11_keep 37 = .ok (.goto (-25), 3) := by decide +kernel
theorem dX11_keep_40 : decode cX11_keep 40 = .ok (.iconst 5, 1) := by decide +kernel
theorem dX11_keep_41 : decode cX11_keep 41 = .ok (.istore_n 1, 1) := by decide +kernel
theorem dX11_keep_42 : decode cX11_keep 42 = .ok (.iload_n 1, 1) := by decide +kernel
theorem dX11_keep_43 : decode cX11_keep 43 = .ok (.sipush 200, 3) := by decide +kernel
theorem dX11_keep_46 : decode cX11_keep 46 = .ok (.if_icmp .ge 23, 3) := by decide +kernel
theorem dX11_keep_49 : decode cX11_keep 49 = .ok (.aload_n 0, 1) := by decide +kernel
theorem dX11_keep_50 : decode cX11_keep 50 = .ok (.getfield 66, 3) := by decide +kernel
theorem dX11_keep_53 : decode cX11_keep 53 = .ok (.iload_n 1, 1) := by decide +kernel
theorem dX11_keep_54 : decode cX11_keep 54 = .ok (.iconst 5, 1) := by decide +kernel
theorem dX11_keep_55 : decode cX11_keep 55 = .ok (.isub, 1) := by decide +kernel
theorem dX11_keep_56 : decode cX11_keep 56 = .ok (.aload_n 0, 1) := by decide +kernel
theorem dX11_keep_57 : decode cX11_keep 57 = .ok (.getfield 66, 3) := by decide +kernel
theorem dX11_keep_60 : decode cX11_keep 60 = .ok (.iload_n 1, 1) := by decide +kernel
theorem dX11_keep_61 : decode cX11_keep 61 = .ok (.iaload, 1) := by decide +kernel
theorem dX11_keep_62 : decode cX11_keep 62 = .ok (.iastore, 1) := by decide +kernel
theorem dX11_keep_63 : decode cX11_keep 63 = .ok (.iinc 1 1, 3) := by decide +kernel
theorem dX11_keep_66 : decode cX11_keep 66 = .ok (.goto (-24), 3) := by decide +kernel
theorem dX11_keep_69 : decode cX11_keep 69 = .ok (.sipush 180, 3) := by decide +kernel
theorem dX11_keep_72 : decode cX11_keep 72 = .ok (.istore_n 1, 1) := by decide +kernel
theorem dX11_keep_73 : decode cX11_keep 73 = .ok (.iload_n 1, 1) := by decide +kernel
theorem dX11_keep_74 : decode cX11_keep 74 = .ok (.sipush 7200, 3) := by decide +kernel
theorem dX11_keep_77 : decode cX11_keep 77 = .ok (.if_icmp .ge 25, 3) := by decide +kernel
theorem dX11_keep_80 : decode cX11_keep 80 = .ok (.aload_n 0, 1) := by decide +kernel
theorem dX11_keep_81 : decode cX11_keep 81 = .ok (.getfield 69, 3) := by decide +kernel
theorem dX11_keep_84 : decode cX11_keep 84 = .ok (.iload_n 1, 1) := by decide +kernel
theorem dX11_keep_85 : decode cX11_keep 85 = .ok (.sipush 180, 3) := by decide +kernel
theorem dX11_keep_88 : decode cX11_keep 88 = .ok (.isub, 1) := by decide +kernel
theorem dX11_keep_89 : decode cX11_keep 89 = .ok (.aload_n 0, 1) := by decide +kernel
theorem dX11_keep_90 : decode cX11_keep 90 = .ok (.getfield 69, 3) := by decide +kernel
theorem dX11_keep_93 : decode cX11_keep 93 = .ok (.iload_n 1, 1) := by decide +kernel
theorem dX11_keep_94 : decode cX11_keep 94 = .ok (.iaload, 1) := by decide +kernel
theorem dX11_keep_95 : decode cX11_keep 95 = .ok (.iastore, 1) := by decide +kernel
theorem dX11_keep_96 : decode cX11_keep 96 = .ok (.iinc 1 1, 3) := by decide +kernel
theorem dX11_keep_99 : decode cX11_keep 99 = .ok (.goto (-26), 3) := by decide +kernel
theorem dX11_keep_102 : decode cX11_keep 102 = .ok (.iconst 1, 1) := by decide +kernel
theorem dX11_keep_103 : decode cX11_keep 103 = .ok (.istore_n 1, 1) := by decide +kernel
theorem dX11_keep_104 : decode cX11_keep 104 = .ok (.iload_n 1, 1) := by decide +kernel
theorem dX11_keep_105 : decode cX11_keep 105 = .ok (.bipush 40, 2) := by decide +kernel
theorem dX11_keep_107 : decode cX11_keep 107 = .ok (.if_icmp .ge 37, 3) := by decide +kernel
theorem dX11_keep_110 : decode cX11_keep 110 = .ok (.aload_n 0, 1) := by decide +kernel
theorem dX11_keep_111 : decode cX11_keep 111 = .ok (.getfield 72, 3) := by decide +kernel
theorem dX11_keep_114 : decode cX11_keep 114 = .ok (.iload_n 1, 1) := by decide +kernel
theorem dX11_keep_115 : decode cX11_keep 115 = .ok (.iconst 1, 1) := by decide +kernel
theorem dX11_keep_116 : decode cX11_keep 116 = .ok (.isub, 1) := by decide +kernel
theorem dX11_keep_117 : decode cX11_keep 117 = .ok (.aload_n 0, 1) := by decide +kernel
theorem dX11_keep_118 : decode cX11_keep 118 = .ok (.getfield 72, 3) := by decide +kernel
theorem dX11_keep_121 : decode cX11_keep 121 = .ok (.iload_n 1, 1) := by decide +kernel
theorem dX11_keep_122 : decode cX11_keep 122 = .ok (.iaload, 1) := by decide +kernel
theorem dX11_keep_123 : decode cX11_keep 123 = .ok (.iastore, 1) := by decide +kernel
theorem dX11_keep_124 : decode cX11_keep 124 = .ok (.aload_n 0, 1) := by decide +kernel
theorem dX11_keep_125 : decode cX11_keep 125 = .ok (.getfield 75, 3) := by decide +kernel
theorem dX11_keep_128 : decode cX11_keep 128 = .ok (.iload_n 1, 1) := by decide +kernel
theorem dX11_keep_129 : decode cX11_keep 129 = .ok (.iconst 1, 1) := by decide +kernel
theorem dX11_keep_130 : decode cX11_keep 130 = .ok (.isub, 1) := by decide +kernel
theorem dX11_keep_131 : decode cX11_keep 131 = .ok (.aload_n 0, 1) := by decide +kernel
theorem dX11_keep_132 : decode cX11_keep 132 = .ok (.getfield 75, 3) := by decide +kernel
theorem dX11_keep_135 : decode cX11_keep 135 = .ok (.iload_n 1, 1) := by decide +kernel
theorem dX11_keep_136 : decode cX11_keep 136 = .ok (.iaload, 1) := by decide +kernel
theorem dX11_keep_137 : decode cX11_keep 137 = .ok (.iastore, 1) := by decide +kernel
theorem dX11_keep_138 : decode cX11_keep 138 = .ok (.iinc 1 1, 3) := by decide +kernel
theorem dX11_keep_141 : decode cX11_keep 141 = .ok (.goto (-37), 3) := by decide +kernel
theorem dX11_keep_144 : decode cX11_keep 144 = .ok (.aload_n 0, 1) := by decide +kernel
theorem dX11_keep_145 : decode cX11_keep 145 = .ok (.dup, 1) := by decide +kernel
theorem dX11_keep_146 : decode cX11_keep 146 = .ok (.getfield 248, 3) := by decide +kernel
theorem dX11_keep_149 : decode cX11_keep 149 = .ok (.iconst 1, 1) := by decide +kernel
theorem dX11_keep_150 : decode cX11_keep 150 = .ok (.isub, 1) := by decide +kernel
theorem dX11_keep_151 : decode cX11_keep 151 = .ok (.putfield 248, 3) := by decide +kernel
theorem dX11_keep_154 : decode cX11_keep 154 = .ok (.iconst 0, 1) := by decide +kernel
theorem dX11_keep_155 : decode cX11_keep 155 = .ok (.istore_n 1, 1) := by decide +kernel
theorem dX11_keep_156 : decode cX11_keep 156 = .ok (.iload_n 1, 1) := by decide +kernel
theorem dX11_keep_157 : decode cX11_keep 157 = .ok (.bipush 64, 2) := by decide +kernel
theorem dX11_keep_159 : decode cX11_keep 159 = .ok (.if_icmp .ge 29, 3) := by decide +kernel
theorem dX11_keep_162 : decode cX11_keep 162 = .ok (.aload_n 0, 1) := by decide +kernel
theorem dX11_keep_163 : decode cX11_keep 163 = .ok (.getfield 63, 3) := by decide +kernel
theorem dX11_keep_166 : decode cX11_keep 166 = .ok (.bipush 64, 2) := by decide +kernel
theorem dX11_keep_168 : decode cX11_keep 168 = .ok (.aload_n 0, 1) := by decide +kernel
theorem dX11_keep_169 : decode cX11_keep 169 = .ok (.getfield 248, 3) := by decide +kernel
theorem dX11_keep_172 : decode cX11_keep 172 = .ok (.imul, 1) := by decide +kernel
theorem dX11_keep_173 : decode cX11_keep 173 = .ok (.iload_n 1, 1) := by decide +kernel
theorem dX11_keep_174 : decode cX11_keep 174 = .ok (.iadd, 1) := by decide +kernel
theorem dX11_keep_175 : decode cX11_keep 175 = .ok (.aload_n 0, 1) := by decide +kernel
theorem dX11_keep_176 : decode cX11_keep 176 = .ok (.getfield 33, 3) := by decide +kernel
theorem dX11_keep_179 : decode cX11_keep 179 = .ok (.iload_n 1, 1) := by decide +kernel
theorem dX11_keep_180 : decode cX11_keep 180 = .ok (.laload, 1) := by decide +kernel
theorem dX11_keep_181 : decode cX11_keep 181 = .ok (.lastore, 1) := by decide +kernel
theorem dX11_keep_182 : decode cX11_keep 182 = .ok (.iinc 1 1, 3) := by decide +kernel
theorem dX11_keep_185 : decode cX11_keep 185 = .ok (.goto (-29), 3) := by decide +kernel
theorem dX11_keep_188 : decode cX11_keep 188 = .ok (.iconst 0, 1) := by decide +kernel
theorem dX11_keep_189 : decode cX11_keep 189 = .ok (.istore_n 1, 1) := by decide +kernel
theorem dX11_keep_190 : decode cX11_keep 190 = .ok (.iload_n 1, 1) := by decide +kernel
theorem dX11_keep_191 : decode cX11_keep 191 = .ok (.iconst 5, 1) := by decide +kernel
theorem dX11_keep_192 : decode cX11_keep 192 = .ok (.if_icmp .ge 28, 3) := by decide +kernel
theorem dX11_keep_195 : decode cX11_keep 195 = .ok (.aload_n 0, 1) := by decide +kernel
theorem dX11_keep_196 : decode cX11_keep 196 = .ok (.getfield 66, 3) := by decide +kernel
theorem dX11_keep_199 : decode cX11_keep 199 = .ok (.iconst 5, 1) := by decide +kernel
theorem dX11_keep_200 : decode cX11_keep 200 = .ok (.aload_n 0, 1) := by decide +kernel
theorem dX11_keep_201 : decode cX11_keep 201 = .ok (.getfield 248, 3) := by decide +kernel
theorem dX11_keep_204 : decode cX11_keep 204 = .ok (.imul, 1) := by decide +kernel
theorem dX11_keep_205 : decode cX11_keep 205 = .ok (.iload_n 1, 1) := by decide +kernel
theorem dX11_keep_206 : decode cX11_keep 206 = .ok (.iadd, 1) := by decide +kernel
theorem dX11_keep_207 : decode cX11_keep 207 = .ok (.aload_n 0, 1) := by decide +kernel
theorem dX11_keep_208 : decode cX11_keep 208 = .ok (.getfield 36, 3) := by decide +kernel
theorem dX11_keep_211 : decode cX11_keep 211 = .ok (.iload_n 1, 1) := by decide +kernel
theorem dX11_keep_212 : decode cX11_keep 212 = .ok (.iaload, 1) := by decide +kernel
theorem dX11_keep_213 : decode cX11_keep 213 = .ok (.iastore, 1) := by decide +kernel
theorem dX11_keep_214 : decode cX11_keep 214 = .ok (.iinc 1 1, 3) := by decide +kernel
theorem dX11_keep_217 : decode cX11_keep 217 = .ok (.goto (-27), 3) := by decide +kernel
theorem dX11_keep_220 : decode cX11_keep 220 = .ok (.iconst 0, 1) := by decide +kernel
theorem dX11_keep_221 : decode cX11_keep 221 = .ok (.istore_n 1, 1) := by decide +kernel
theorem dX11_keep_222 : decode cX11_keep 222 = .ok (.iload_n 1, 1) := by decide +kernel
theorem dX11_keep_223 : decode cX11_keep 223 = .ok (.sipush 180, 3) := by decide +kernel
theorem dX11_keep_226 : decode cX11_keep 226 = .ok (.if_icmp .ge 30, 3) := by decide +kernel
theorem dX11_keep_229 : decode cX11_keep 229 = .ok (.aload_n 0, 1) := by decide +kernel
theorem dX11_keep_230 : decode cX11_keep 230 = .ok (.getfield 69, 3) := by decide +kernel
theorem dX11_keep_233 : decode cX11_keep 233 = .ok (.sipush 180, 3) := by decide +kernel
theorem dX11_keep_236 : decode cX11_keep 236 = .ok (.aload_n 0, 1) := by decide +kernel
theorem dX11_keep_237 : decode cX11_keep 237 = .ok (.getfield 248, 3) := by decide +kernel
theorem dX11_keep_240 : decode cX11_keep 240 = .ok (.imul, 1) := by decide +kernel
theorem dX11_keep_241 : decode cX11_keep 241 = .ok (.iload_n 1, 1) := by decide +kernel
theorem dX11_keep_242 : decode cX11_keep 242 = .ok (.iadd, 1) := by decide +kernel
theorem dX11_keep_243 : decode cX11_keep 243 = .ok (.aload_n 0, 1) := by decide +kernel
theorem dX11_keep_244 : decode cX11_keep 244 = .ok (.getfield 39, 3) := by decide +kernel
theorem dX11_keep_247 : decode cX11_keep 247 = .ok (.iload_n 1, 1) := by decide +kernel
theorem dX11_keep_248 : decode cX11_keep 248 = .ok (.iaload, 1) := by decide +kernel
theorem dX11_keep_249 : decode cX11_keep 249 = .ok (.iastore, 1) := by decide +kernel
theorem dX11_keep_250 : decode cX11_keep 250 = .ok (.iinc 1 1, 3) := by decide +kernel
theorem dX11_keep_253 : decode cX11_keep 253 = .ok (.goto (-31), 3) := by decide +kernel
theorem dX11_keep_256 : decode cX11_keep 256 = .ok (.aload_n 0, 1) := by decide +kernel
theorem dX11_keep_257 : decode cX11_keep 257 = .ok (.getfield 72, 3) := by decide +kernel
theorem dX11_keep_260 : decode cX11_keep 260 = .ok (.aload_n 0, 1) := by decide +kernel
theorem dX11_keep_261 : decode cX11_keep 261 = .ok (.getfield 248, 3) := by decide +kernel
theorem dX11_keep_264 : decode cX11_keep 264 = .ok (.aload_n 0, 1) := by decide +kernel
theorem dX11_keep_265 : decode cX11_keep 265 = .ok (.getfield 242, 3) := by decide +kernel
theorem dX11_keep_268 : decode cX11_keep 268 = .ok (.iastore, 1) := by decide +kernel
theorem dX11_keep_269 : decode cX11_keep 269 = .ok (.aload_n 0, 1) := by decide +kernel
theorem dX11_keep_270 : decode cX11_keep 270 = .ok (.getfield 75, 3) := by decide +kernel
theorem dX11_keep_273 : decode cX11_keep 273 = .ok (.aload_n 0, 1) := by decide +kernel
theorem dX11_keep_274 : decode cX11_keep 274 = .ok (.getfield 248, 3) := by decide +kernel
theorem dX11_keep_277 : decode cX11_keep 277 = .ok (.aload_n 0, 1) := by decide +kernel
theorem dX11_keep_278 : decode cX11_keep 278 = .ok (.getfield 245, 3) := by decide +kernel
theorem dX11_keep_281 : decode cX11_keep 281 = .ok (.iastore, 1) := by decide +kernel
theorem dX11_keep_282 : decode cX11_keep 282 = .ok (.aload_n 0, 1) := by decide +kernel
theorem dX11_keep_283 : decode cX11_keep 283 = .ok (.dup, 1) := by decide +kernel
theorem dX11_keep_284 : decode cX11_keep 284 = .ok (.getfield 248, 3) := by decide +kernel
theorem dX11_keep_287 : decode cX11_keep 287 = .ok (.iconst 1, 1) := by decide +kernel
theorem dX11_keep_288 : decode cX11_keep 288 = .ok (.iadd, 1) := by decide +kernel
theorem dX11_keep_289 : decode cX11_keep 289 = .ok (.putfield 248, 3) := by decide +kernel
theorem dX11_keep_292 : decode cX11_keep 292 = .ok (.return_, 1) := by decide +kernel
theorem dX11_note_0 : decode cX11_note 0 = .ok (.aload_n 0, 1) := by decide +kernel
theorem dX11_note_1 : decode cX11_note 1 = .ok (.getfield 245, 3) := by decide +kernel
theorem dX11_note_4 : decode cX11_note 4 = .ok (.bipush 60, 2) := by decide +kernel
theorem dX11_note_6 : decode cX11_note 6 = .ok (.if_icmp .ne 42, 3) := by decide +kernel
theorem dX11_note_9 : decode cX11_note 9 = .ok (.iconst 3, 1) := by decide +kernel
theorem dX11_note_10 : decode cX11_note 10 = .ok (.istore_n 3, 1) := by decide +kernel
theorem dX11_note_11 : decode cX11_note 11 = .ok (.iload_n 3, 1) := by decide +kernel
theorem dX11_note_12 : decode cX11_note 12 = .ok (.sipush 180, 3) := by decide +kernel
theorem dX11_note_15 : decode cX11_note 15 = .ok (.if_icmp .ge 23, 3) := by decide +kernel
theorem dX11_note_18 : decode cX11_note 18 = .ok (.aload_n 0, 1) := by decide +kernel
theorem dX11_note_19 : decode cX11_note 19 = .ok (.getfield 39, 3) := by decide +kernel
theorem dX11_note_22 : decode cX11_note 22 = .ok (.iload_n 3, 1) := by decide +kernel
theorem dX11_note_23 : decode cX11_note 23 = .ok (.iconst 3, 1) := by decide +kernel
theorem dX11_note_24 : decode cX11_note 24 = .ok (.isub, 1) := by decide +kernel
theorem dX11_note_25 : decode cX11_note 25 = .ok (.aload_n 0, 1) := by decide +kernel
theorem dX11_note_26 : decode cX11_note 26 = .ok (.getfield 39, 3) := by decide +kernel
theorem dX11_note_29 : decode cX11_note 29 = .ok (.iload_n 3, 1) := by decide +kernel
theorem dX11_note_30 : decode cX11_note 30 = .ok (.iaload, 1) := by decide +kernel
theorem dX11_note_31 : decode cX11_note 31 = .ok (.iastore, 1) := by decide +kernel
theorem dX11_note_32 : decode cX11_note 32 = .ok (.iinc 3 1, 3) := by decide +kernel
theorem dX11_note_35 : decode cX11_note 35 = .ok (.goto (-24), 3) := by decide +kernel
theorem dX11_note_38 : decode cX11_note 38 = .ok (.aload_n 0, 1) := by decide +kernel
theorem dX11_note_39 : decode cX11_note 39 = .ok (.dup, 1) := by decide +kernel
theorem dX11_note_40 : decode cX11_note 40 = .ok (.getfield 245, 3) := by decide +kernel
theorem dX11_note_43 : decode cX11_note 43 = .ok (.iconst 1, 1) := by decide +kernel
theorem dX11_note_44 : decode cX11_note 44 = .ok (.isub, 1) := by decide +kernel
theorem dX11_note_45 : decode cX11_note 45 = .ok (.putfield 245, 3) := by decide +kernel
theorem dX11_note_48 : decode cX11_note 48 = .ok (.aload_n 0, 1) := by decide +kernel
theorem dX11_note_49 : decode cX11_note 49 = .ok (.getfield 39, 3) := by decide +kernel
theorem dX11_note_52 : decode cX11_note 52 = .ok (.iconst 3, 1) := by decide +kernel
theorem dX11_note_53 : decode cX11_note 53 = .ok (.aload_n 0, 1) := by decide +kernel
theorem dX11_note_54 : decode cX11_note 54 = .ok (.getfield 245, 3) := by decide +kernel
theorem dX11_note_57 : decode cX11_note 57 = .ok (.imul, 1) := by decide +kernel
theorem dX11_note_58 : decode cX11_note 58 = .ok (.iload_n 1, 1) := by decide +kernel
theorem dX11_note_59 : decode cX11_note 59 = .ok (.iastore, 1) := by decide +kernel
theorem dX11_note_60 : decode cX11_note 60 = .ok (.aload_n 0, 1) := by decide +kernel
theorem dX11_note_61 : decode cX11_note 61 = .ok (.getfield 39, 3) := by decide +kernel
theorem dX11_note_64 : decode cX11_note 64 = .ok (.iconst 3, 1) := by decide +kernel
theorem dX11_note_65 : decode cX11_note 65 = .ok (.aload_n 0, 1) := by decide +kernel
theorem dX11_note_66 : decode cX11_note 66 = .ok (.getfield 245, 3) := by decide +kernel
theorem dX11_note_69 : decode cX11_note 69 = .ok (.imul, 1) := by decide +kernel
theorem dX11_note_70 : decode cX11_note 70 = .ok (.iconst 1, 1) := by decide +kernel
theorem dX11_note_71 : decode cX11_note 71 = .ok (.iadd, 1) := by decide +kernel
theorem dX11_note_72 : decode cX11_note 72 = .ok (.iload_n 2, 1) := by decide +kernel
theorem dX11_note_73 : decode cX11_note 73 = .ok (.iastore, 1) := by decide +kernel
theorem dX11_note_74 : decode cX11_note 74 = .ok (.aload_n 0, 1) := by decide +kernel
theorem dX11_note_75 : decode cX11_note 75 = .ok (.getfield 39, 3) := by decide +kernel
theorem dX11_note_78 : decode cX11_note 78 = .ok (.iconst 3, 1) := by decide +kernel
theorem dX11_note_79 : decode cX11_note 79 = .ok (.aload_n 0, 1) := by decide +kernel
theorem dX11_note_80 : decode cX11_note 80 = .ok (.getfield 245, 3) := by decide +kernel
theorem dX11_note_83 : decode cX11_note 83 = .ok (.imul, 1) := by decide +kernel
theorem dX11_note_84 : decode cX11_note 84 = .ok (.iconst 2, 1) := by decide +kernel
theorem dX11_note_85 : decode cX11_note 85 = .ok (.iadd, 1) := by decide +kernel
theorem dX11_note_86 : decode cX11_note 86 = .ok (.aload_n 0, 1) := by decide +kernel
theorem dX11_note_87 : decode cX11_note 87 = .ok (.getfield 242, 3) := by decide +kernel
theorem dX11_note_90 : decode cX11_note 90 = .ok (.iastore, 1) := by decide +kernel
theorem dX11_note_91 : decode cX11_note 91 = .ok (.aload_n 0, 1) := by decide +kernel
theorem dX11_note_92 : decode cX11_note 92 = .ok (.dup, 1) := by decide +kernel
theorem dX11_note_93 : decode cX11_note 93 = .ok (.getfield 245, 3) := by decide +kernel
theorem dX11_note_96 : decode cX11_note 96 = .ok (.iconst 1, 1) := by decide +kernel
theorem dX11_note_97 : decode cX11_note 97 = .ok (.iadd, 1) := by decide +kernel
theorem dX11_note_98 : decode cX11_note 98 = .ok (.putfield 245, 3) := by decide +kernel
theorem dX11_note_101 : decode cX11_note 101 = .ok (.return_, 1) := by decide +kernel
theorem dX11_isRefused_0 : decode cX11_isRefused 0 = .ok (.iload_n 1, 1) := by decide +kernel
theorem dX11_isRefused_1 : decode cX11_isRefused 1 = .ok (.iconst (-1), 1) := by decide +kernel
theorem dX11_isRefused_2 : decode cX11_isRefused 2 = .ok (.if_icmp .ne 10, 3) := by decide +kernel
theorem dX11_isRefused_5 : decode cX11_isRefused 5 = .ok (.aload_n 0, 1) := by decide +kernel
theorem dX11_isRefused_6 : decode cX11_isRefused 6 = .ok (.invokevirtual 430, 3) := by decide +kernel
theorem dX11_isRefused_9 : decode cX11_isRefused 9 = .ok (.goto 13, 3) := by decide +kernel
theorem dX11_isRefused_12 : decode cX11_isRefused 12 = .ok (.aload_n 0, 1) := by decide +kernel
theorem dX11_isRefused_13 : decode cX11_isRefused 13 = .ok (.getfield 42, 3) := by decide +kernel
theorem dX11_isRefused_16 : decode cX11_isRefused 16 = .ok (.iload_n 1, 1) := by decide +kernel
theorem dX11_isRefused_17 : decode cX11_isRefused 17 = .ok (.dup2, 1) := by decide +kernel
theorem dX11_isRefused_18 : decode cX11_isRefused 18 = .ok (.iaload, 1) := by decide +kernel
theorem dX11_isRefused_19 : decode cX11_isRefused 19 = .ok (.iconst 1, 1) := by decide +kernel
theorem dX11_isRefused_20 : decode cX11_isRefused 20 = .ok (.iadd, 1) := by decide +kernel
theorem dX11_isRefused_21 : decode cX11_isRefused 21 = .ok (.iastore, 1) := by decide +kernel
theorem dX11_isRefused_22 : decode cX11_isRefused 22 = .ok (.iload_n 1, 1) := by decide +kernel
theorem dX11_isRefused_23 : decode cX11_isRefused 23 = .ok (.iconst (-1), 1) := by decide +kernel
theorem dX11_isRefused_24 : decode cX11_isRefused 24 = .ok (.if_icmp .eq 7, 3) := by decide +kernel
theorem dX11_isRefused_27 : decode cX11_isRefused 27 = .ok (.iconst 1, 1) := by decide +kernel
theorem dX11_isRefused_28 : decode cX11_isRefused 28 = .ok (.goto 4, 3) := by decide +kernel
theorem dX11_isRefused_31 : decode cX11_isRefused 31 = .ok (.iconst 0, 1) := by decide +kernel
theorem dX11_isRefused_32 : decode cX11_isRefused 32 = .ok (.ireturn, 1) := by decide +kernel
theorem dX11_add_0 : decode cX11_add 0 = .ok (.aload_n 0, 1) := by decide +kernel
theorem dX11_add_1 : decode cX11_add 1 = .ok (.aload_n 0, 1) := by decide +kernel
theorem dX11_add_2 : decode cX11_add 2 = .ok (.getfield 238, 3) := by decide +kernel
theorem dX11_add_5 : decode cX11_add 5 = .ok (.ifCond .ne 7, 3) := by decide +kernel
theorem dX11_add_8 : decode cX11_add 8 = .ok (.iconst 0, 1) := by decide +kernel
theorem dX11_add_9 : decode cX11_add 9 = .ok (.goto 17, 3) := by decide +kernel
theorem dX11_add_12 : decode cX11_add 12 = .ok (.aload_n 0, 1) := by decide +kernel
theorem dX11_add_13 : decode cX11_add 13 = .ok (.getfield 242, 3) := by decide +kernel
theorem dX11_add_16 : decode cX11_add 16 = .ok (.bipush 64, 2) := by decide +kernel
theorem dX11_add_18 : decode cX11_add 18 = .ok (.if_icmp .ne 7, 3) := by decide +kernel
theorem dX11_add_21 : decode cX11_add 21 = .ok (.iconst 3, 1) := by decide +kernel
theorem dX11_add_22 : decode cX11_add 22 = .ok (.goto 4, 3) := by decide +kernel
theorem dX11_add_25 : decode cX11_add 25 = .ok (.iconst (-1), 1) := by decide +kernel
theorem dX11_add_26 : decode cX11_add 26 = .ok (.invokevirtual 433, 3) := by decide +kernel
theorem dX11_add_29 : decode cX11_add 29 = .ok (.ifCond .eq 5, 3) := by decide +kernel
theorem dX11_add_32 : decode cX11_add 32 = .ok (.iconst (-1), 1) := by decide +kernel
theorem dX11_add_33 : decode cX11_add 33 = .ok (.ireturn, 1) := by decide +kernel
theorem dX11_add_34 : decode cX11_add 34 = .ok (.aload_n 0, 1) := by decide +kernel
theorem dX11_add_35 : decode cX11_add 35 = .ok (.getfield 33, 3) := by decide +kernel
theorem dX11_add_38 : decode cX11_add 38 = .ok (.aload_n 0, 1) := by decide +kernel
theorem dX11_add_39 : decode cX11_add 39 = .ok (.getfield 242, 3) := by decide +kernel
theorem dX11_add_42 : decode cX11_add 42 = .ok (.lload_n 1, 1) := by decide +kernel
theorem dX11_add_43 : decode cX11_add 43 = .ok (.lastore, 1) := by decide +kernel
theorem dX11_add_44 : decode cX11_add 44 = .ok (.aload_n 0, 1) := by decide +kernel
theorem dX11_add_45 : decode cX11_add 45 = .ok (.dup, 1) := by decide +kernel
theorem dX11_add_46 : decode cX11_add 46 = .ok (.getfield 242, 3) := by decide +kernel
theorem dX11_add_49 : decode cX11_add 49 = .ok (.iconst 1, 1) := by decide +kernel
theorem dX11_add_50 : decode cX11_add 50 = .ok (.iadd, 1) := by decide +kernel
theorem dX11_add_51 : decode cX11_add 51 = .ok (.putfield 242, 3) := by decide +kernel
theorem dX11_add_54 : decode cX11_add 54 = .ok (.aload_n 0, 1) := by decide +kernel
theorem dX11_add_55 : decode cX11_add 55 = .ok (.iconst 0, 1) := by decide +kernel
theorem dX11_add_56 : decode cX11_add 56 = .ok (.aload_n 0, 1) := by decide +kernel
theorem dX11_add_57 : decode cX11_add 57 = .ok (.getfield 242, 3) := by decide +kernel
theorem dX11_add_60 : decode cX11_add 60 = .ok (.iconst 1, 1) := by decide +kernel
theorem dX11_add_61 : decode cX11_add 61 = .ok (.isub, 1) := by decide +kernel
theorem dX11_add_62 : decode cX11_add 62 = .ok (.invokevirtual 436, 3) := by decide +kernel
theorem dX11_add_65 : decode cX11_add 65 = .ok (.aload_n 0, 1) := by decide +kernel
theorem dX11_add_66 : decode cX11_add 66 = .ok (.getfield 242, 3) := by decide +kernel
theorem dX11_add_69 : decode cX11_add 69 = .ok (.iconst 1, 1) := by decide +kernel
theorem dX11_add_70 : decode cX11_add 70 = .ok (.isub, 1) := by decide +kernel
theorem dX11_add_71 : decode cX11_add 71 = .ok (.ireturn, 1) := by decide +kernel
theorem dX11_put_0 : decode cX11_put 0 = .ok (.aload_n 0, 1) := by decide +kernel
theorem dX11_put_1 : decode cX11_put 1 = .ok (.aload_n 0, 1) := by decide +kernel
theorem dX11_put_2 : decode cX11_put 2 = .ok (.iload_n 1, 1) := by decide +kernel
theorem dX11_put_3 : decode cX11_put 3 = .ok (.invokevirtual 375, 3) := by decide +kernel
theorem dX11_put_6 : decode cX11_put 6 = .ok (.ifCond .ne 7, 3) := by decide +kernel
theorem dX11_put_9 : decode cX11_put 9 = .ok (.iconst 0, 1) := by decide +kernel
theorem dX11_put_10 : decode cX11_put 10 = .ok (.goto 19, 3) := by decide +kernel
theorem dX11_put_13 : decode cX11_put 13 = .ok (.aload_n 0, 1) := by decide +kernel
theorem dX11_put_14 : decode cX11_put 14 = .ok (.getfield 33, 3) := by decide +kernel
theorem dX11_put_17 : decode cX11_put 17 = .ok (.iload_n 1, 1) := by decide +kernel
theorem dX11_put_18 : decode cX11_put 18 = .ok (.laload, 1) := by decide +kernel
theorem dX11_put_19 : decode cX11_put 19 = .ok (.lload_n 2, 1) := by decide +kernel
theorem dX11_put_20 : decode cX11_put 20 = .ok (.lcmp, 1) := by decide +kernel
theorem dX11_put_21 : decode cX11_put 21 = .ok (.ifCond .ne 7, 3) := by decide +kernel
theorem dX11_put_24 : decode cX11_put 24 = .ok (.iconst 2, 1) := by decide +kernel
theorem dX11_put_25 : decode cX11_put 25 = .ok (.goto 4, 3) := by decide +kernel
theorem dX11_put_28 : decode cX11_put 28 = .ok (.iconst (-1), 1) := by decide +kernel
theorem dX11_put_29 : decode cX11_put 29 = .ok (.invokevirtual 433, 3) := by decide +kernel
theorem dX11_put_32 : decode cX11_put 32 = .ok (.ifCond .eq 5, 3) := by decide +kernel
theorem dX11_put_35 : decode cX11_put 35 = .ok (.iconst (-1), 1) := by decide +kernel
theorem dX11_put_36 : decode cX11_put 36 = .ok (.ireturn, 1) := by decide +kernel
theorem dX11_put_37 : decode cX11_put 37 = .ok (.aload_n 0, 1) := by decide +kernel
theorem dX11_put_38 : decode cX11_put 38 = .ok (.getfield 33, 3) := by decide +kernel
theorem dX11_put_41 : decode cX11_put 41 = .ok (.iload_n 1, 1) := by decide +kernel
theorem dX11_put_42 : decode cX11_put 42 = .ok (.lload_n 2, 1) := by decide +kernel
theorem dX11_put_43 : decode cX11_put 43 = .ok (.lastore, 1) := by decide +kernel
theorem dX11_put_44 : decode cX11_put 44 = .ok (.aload_n 0, 1) := by decide +kernel
theorem dX11_put_45 : decode cX11_put 45 = .ok (.iconst 1, 1) := by decide +kernel
theorem dX11_put_46 : decode cX11_put 46 = .ok (.iload_n 1, 1) := by decide +kernel
theorem dX11_put_47 : decode cX11_put 47 = .ok (.invokevirtual 436, 3) := by decide +kernel
theorem dX11_put_50 : decode cX11_put 50 = .ok (.iload_n 1, 1) := by decide +kernel
theorem dX11_put_51 : decode cX11_put 51 = .ok (.ireturn, 1) := by decide +kernel
theorem dX11_drop_0 : decode cX11_drop 0 = .ok (.aload_n 0, 1) := by decide +kernel
theorem dX11_drop_1 : decode cX11_drop 1 = .ok (.aload_n 0, 1) := by decide +kernel
theorem dX11_drop_2 : decode cX11_drop 2 = .ok (.getfield 238, 3) := by decide +kernel
theorem dX11_drop_5 : decode cX11_drop 5 = .ok (.ifCond .eq 10, 3) := by decide +kernel
theorem dX11_drop_8 : decode cX11_drop 8 = .ok (.aload_n 0, 1) := by decide +kernel
theorem dX11_drop_9 : decode cX11_drop 9 = .ok (.getfield 242, 3) := by decide +kernel
theorem dX11_drop_12 : decode cX11_drop 12 = .ok (.ifCond .ne 7, 3) := by decide +kernel
theorem dX11_drop_15 : decode cX11_drop 15 = .ok (.iconst 0, 1) := by decide +kernel
theorem dX11_drop_16 : decode cX11_drop 16 = .ok (.goto 4, 3) := by decide +kernel
theorem dX11_drop_19 : decode cX11_drop 19 = .ok (.iconst (-1), 1) := by decide +kernel
theorem dX11_drop_20 : decode cX11_drop 20 = .ok (.invokevirtual 433, 3) := by decide +kernel
theorem dX11_drop_23 : decode cX11_drop 23 = .ok (.ifCond .eq 5, 3) := by decide +kernel
theorem dX11_drop_26 : decode cX11_drop 26 = .ok (.iconst (-1), 1) := by decide +kernel
theorem dX11_drop_27 : decode cX11_drop 27 = .ok (.ireturn, 1) := by decide +kernel
theorem dX11_drop_28 : decode cX11_drop 28 = .ok (.aload_n 0, 1) := by decide +kernel
theorem dX11_drop_29 : decode cX11_drop 29 = .ok (.dup, 1) := by decide +kernel
theorem dX11_drop_30 : decode cX11_drop 30 = .ok (.getfield 242, 3) := by decide +kernel
theorem dX11_drop_33 : decode cX11_drop 33 = .ok (.iconst 1, 1) := by decide +kernel
theorem dX11_drop_34 : decode cX11_drop 34 = .ok (.isub, 1) := by decide +kernel
theorem dX11_drop_35 : decode cX11_drop 35 = .ok (.putfield 242, 3) := by decide +kernel
theorem dX11_drop_38 : decode cX11_drop 38 = .ok (.aload_n 0, 1) := by decide +kernel
theorem dX11_drop_39 : decode cX11_drop 39 = .ok (.iconst 2, 1) := by decide +kernel
theorem dX11_drop_40 : decode cX11_drop 40 = .ok (.aload_n 0, 1) := by decide +kernel
theorem dX11_drop_41 : decode cX11_drop 41 = .ok (.getfield 242, 3) := by decide +kernel
theorem dX11_drop_44 : decode cX11_drop 44 = .ok (.invokevirtual 436, 3) := by decide +kernel
theorem dX11_drop_47 : decode cX11_drop 47 = .ok (.aload_n 0, 1) := by decide +kernel
theorem dX11_drop_48 : decode cX11_drop 48 = .ok (.getfield 242, 3) := by decide +kernel
theorem dX11_drop_51 : decode cX11_drop 51 = .ok (.ireturn, 1) := by decide +kernel
theorem dX11_swap_0 : decode cX11_swap 0 = .ok (.aload_n 0, 1) := by decide +kernel
theorem dX11_swap_1 : decode cX11_swap 1 = .ok (.aload_n 0, 1) := by decide +kernel
theorem dX11_swap_2 : decode cX11_swap 2 = .ok (.iload_n 1, 1) := by decide +kernel
theorem dX11_swap_3 : decode cX11_swap 3 = .ok (.invokevirtual 375, 3) := by decide +kernel
theorem dX11_swap_6 : decode cX11_swap 6 = .ok (.ifCond .eq 11, 3) := by decide +kernel
theorem dX11_swap_9 : decode cX11_swap 9 = .ok (.aload_n 0, 1) := by decide +kernel
theorem dX11_swap_10 : decode cX11_swap 10 = .ok (.iload_n 2, 1) := by decide +kernel
theorem dX11_swap_11 : decode cX11_swap 11 = .ok (.invokevirtual 375, 3) := by decide +kernel
theorem dX11_swap_14 : decode cX11_swap 14 = .ok (.ifCond .ne 7, 3) := by decide +kernel
theorem dX11_swap_17 : decode cX11_swap 17 = .ok (.iconst 0, 1) := by decide +kernel
theorem dX11_swap_18 : decode cX11_swap 18 = .ok (.goto 24, 3) := by decide +kernel
theorem dX11_swap_21 : decode cX11_swap 21 = .ok (.aload_n 0, 1) := by decide +kernel
theorem dX11_swap_22 : decode cX11_swap 22 = .ok (.getfield 33, 3) := by decide +kernel
theorem dX11_swap_25 : decode cX11_swap 25 = .ok (.iload_n 1, 1) := by decide +kernel
theorem dX11_swap_26 : decode cX11_swap 26 = .ok (.laload, 1) := by decide +kernel
theorem dX11_swap_27 : decode cX11_swap 27 = .ok (.aload_n 0, 1) := by decide +kernel
theorem dX11_swap_28 : decode cX11_swap 28 = .ok (.getfield 33, 3) := by decide +kernel
theorem dX11_swap_31 : decode cX11_swap 31 = .ok (.iload_n 2, 1) := by decide +kernel
theorem dX11_swap_32 : decode cX11_swap 32 = .ok (.laload, 1) := by decide +kernel
theorem dX11_swap_33 : decode cX11_swap 33 = .ok (.lcmp, 1) := by decide +kernel
theorem dX11_swap_34 : decode cX11_swap 34 = .ok (.ifCond .ne 7, 3) := by decide +kernel
theorem dX11_swap_37 : decode cX11_swap 37 = .ok (.iconst 2, 1) := by decide +kernel
theorem dX11_swap_38 : decode cX11_swap 38 = .ok (.goto 4, 3) := by decide +kernel
theorem dX11_swap_41 : decode cX11_swap 41 = .ok (.iconst (-1), 1) := by decide +kernel
theorem dX11_swap_42 : decode cX11_swap 42 = .ok (.invokevirtual 433, 3) := by decide +kernel
theorem dX11_swap_45 : decode cX11_swap 45 = .ok (.ifCond .eq 5, 3) := by decide +kernel
theorem dX11_swap_48 : decode cX11_swap 48 = .ok (.iconst (-1), 1) := by decide +kernel
theorem dX11_swap_49 : decode cX11_swap 49 = .ok (.ireturn, 1) := by decide +kernel
theorem dX11_swap_50 : decode cX11_swap 50 = .ok (.aload_n 0, 1) := by decide +kernel
theorem dX11_swap_51 : decode cX11_swap 51 = .ok (.getfield 33, 3) := by decide +kernel
theorem dX11_swap_54 : decode cX11_swap 54 = .ok (.iload_n 1, 1) := by decide +kernel
theorem dX11_swap_55 : decode cX11_swap 55 = .ok (.laload, 1) := by decide +kernel
theorem dX11_swap_56 : decode cX11_swap 56 = .ok (.lstore_n 3, 1) := by decide +kernel
theorem dX11_swap_57 : decode cX11_swap 57 = .ok (.aload_n 0, 1) := by decide +kernel
theorem dX11_swap_58 : decode cX11_swap 58 = .ok (.getfield 33, 3) := by decide +kernel
theorem dX11_swap_61 : decode cX11_swap 61 = .ok (.iload_n 1, 1) := by decide +kernel
theorem dX11_swap_62 : decode cX11_swap 62 = .ok (.aload_n 0, 1) := by decide +kernel
theorem dX11_swap_63 : decode cX11_swap 63 = .ok (.getfield 33, 3) := by decide +kernel
theorem dX11_swap_66 : decode cX11_swap 66 = .ok (.iload_n 2, 1) := by decide +kernel
theorem dX11_swap_67 : decode cX11_swap 67 = .ok (.laload, 1) := by decide +kernel
theorem dX11_swap_68 : decode cX11_swap 68 = .ok (.lastore, 1) := by decide +kernel
theorem dX11_swap_69 : decode cX11_swap 69 = .ok (.aload_n 0, 1) := by decide +kernel
theorem dX11_swap_70 : decode cX11_swap 70 = .ok (.getfield 33, 3) := by decide +kernel
theorem dX11_swap_73 : decode cX11_swap 73 = .ok (.iload_n 2, 1) := by decide +kernel
theorem dX11_swap_74 : decode cX11_swap 74 = .ok (.lload_n 3, 1) := by decide +kernel
theorem dX11_swap_75 : decode cX11_swap 75 = .ok (.lastore, 1) := by decide +kernel
theorem dX11_swap_76 : decode cX11_swap 76 = .ok (.aload_n 0, 1) := by decide +kernel
theorem dX11_swap_77 : decode cX11_swap 77 = .ok (.iconst 3, 1) := by decide +kernel
theorem dX11_swap_78 : decode cX11_swap 78 = .ok (.iload_n 1, 1) := by decide +kernel
theorem dX11_swap_79 : decode cX11_swap 79 = .ok (.invokevirtual 436, 3) := by decide +kernel
theorem dX11_swap_82 : decode cX11_swap 82 = .ok (.iload_n 1, 1) := by decide +kernel
theorem dX11_swap_83 : decode cX11_swap 83 = .ok (.ireturn, 1) := by decide +kernel
theorem dX11_isRule_0 : decode cX11_isRule 0 = .ok (.aload_n 0, 1) := by decide +kernel
theorem dX11_isRule_1 : decode cX11_isRule 1 = .ok (.getfield 238, 3) := by decide +kernel
theorem dX11_isRule_4 : decode cX11_isRule 4 = .ok (.ifCond .eq 16, 3) := by decide +kernel
theorem dX11_isRule_7 : decode cX11_isRule 7 = .ok (.iload_n 1, 1) := by decide +kernel
theorem dX11_isRule_8 : decode cX11_isRule 8 = .ok (.iconst 0, 1) := by decide +kernel
theorem dX11_isRule_9 : decode cX11_isRule 9 = .ok (.iconst 4, 1) := by decide +kernel
theorem dX11_isRule_10 : decode cX11_isRule 10 = .ok (.invokestatic 99, 3) := by decide +kernel
theorem dX11_isRule_13 : decode cX11_isRule 13 = .ok (.ifCond .eq 7, 3) := by decide +kernel
theorem dX11_isRule_16 : decode cX11_isRule 16 = .ok (.iconst 1, 1) := by decide +kernel
theorem dX11_isRule_17 : decode cX11_isRule 17 = .ok (.goto 4, 3) := by decide +kernel
theorem dX11_isRule_20 : decode cX11_isRule 20 = .ok (.iconst 0, 1) := by decide +kernel
theorem dX11_isRule_21 : decode cX11_isRule 21 = .ok (.ireturn, 1) := by decide +kernel
theorem dX11_set_0 : decode cX11_set 0 = .ok (.aload_n 0, 1) := by decide +kernel
theorem dX11_set_1 : decode cX11_set 1 = .ok (.aload_n 0, 1) := by decide +kernel
theorem dX11_set_2 : decode cX11_set 2 = .ok (.iload_n 1, 1) := by decide +kernel
