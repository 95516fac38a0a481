theorem dX10_init_0 : decode cX10_init 0 = .ok (.aload_n 0, 1) := by decide +kernel
theorem dX10_init_1 : decode cX10_init 1 = .ok (.invokespecial 3, 3) := by decide +kernel
theorem dX10_init_4 : decode cX10_init 4 = .ok (.aload_n 0, 1) := by decide +kernel
theorem dX10_init_5 : decode cX10_init 5 = .ok (.new 9, 3) := by decide +kernel
theorem dX10_init_8 : decode cX10_init 8 = .ok (.dup, 1) := by decide +kernel
theorem dX10_init_9 : decode cX10_init 9 = .ok (.invokespecial 11, 3) := by decide +kernel
theorem dX10_init_12 : decode cX10_init 12 = .ok (.putfield 12, 3) := by decide +kernel
theorem dX10_init_15 : decode cX10_init 15 = .ok (.aload_n 0, 1) := by decide +kernel
theorem dX10_init_16 : decode cX10_init 16 = .ok (.new 16, 3) := by decide +kernel
theorem dX10_init_19 : decode cX10_init 19 = .ok (.dup, 1) := by decide +kernel
theorem dX10_init_20 : decode cX10_init 20 = .ok (.invokespecial 18, 3) := by decide +kernel
theorem dX10_init_23 : decode cX10_init 23 = .ok (.putfield 19, 3) := by decide +kernel
theorem dX10_init_26 : decode cX10_init 26 = .ok (.aload_n 0, 1) := by decide +kernel
theorem dX10_init_27 : decode cX10_init 27 = .ok (.new 16, 3) := by decide +kernel
theorem dX10_init_30 : decode cX10_init 30 = .ok (.dup, 1) := by decide +kernel
theorem dX10_init_31 : decode cX10_init 31 = .ok (.invokespecial 18, 3) := by decide +kernel
theorem dX10_init_34 : decode cX10_init 34 = .ok (.putfield 23, 3) := by decide +kernel
theorem dX10_init_37 : decode cX10_init 37 = .ok (.aload_n 0, 1) := by decide +kernel
theorem dX10_init_38 : decode cX10_init 38 = .ok (.new 26, 3) := by decide +kernel
theorem dX10_init_41 : decode cX10_init 41 = .ok (.dup, 1) := by decide +kernel
theorem dX10_init_42 : decode cX10_init 42 = .ok (.aload_n 0, 1) := by decide +kernel
theorem dX10_init_43 : decode cX10_init 43 = .ok (.getfield 19, 3) := by decide +kernel
theorem dX10_init_46 : decode cX10_init 46 = .ok (.aload_n 0, 1) := by decide +kernel
theorem dX10_init_47 : decode cX10_init 47 = .ok (.getfield 12, 3) := by decide +kernel
theorem dX10_init_50 : decode cX10_init 50 = .ok (.invokespecial 28, 3) := by decide +kernel
theorem dX10_init_53 : decode cX10_init 53 = .ok (.putfield 31, 3) := by decide +kernel
theorem dX10_init_56 : decode cX10_init 56 = .ok (.aload_n 0, 1) := by decide +kernel
theorem dX10_init_57 : decode cX10_init 57 = .ok (.new 35, 3) := by decide +kernel
theorem dX10_init_60 : decode cX10_init 60 = .ok (.dup, 1) := by decide +kernel
theorem dX10_init_61 : decode cX10_init 61 = .ok (.aload_n 0, 1) := by decide +kernel
theorem dX10_init_62 : decode cX10_init 62 = .ok (.getfield 19, 3) := by decide +kernel
theorem dX10_init_65 : decode cX10_init 65 = .ok (.aload_n 0, 1) := by decide +kernel
theorem dX10_init_66 : decode cX10_init 66 = .ok (.getfield 12, 3) := by decide +kernel
theorem dX10_init_69 : decode cX10_init 69 = .ok (.invokespecial 37, 3) := by decide +kernel
theorem dX10_init_72 : decode cX10_init 72 = .ok (.putfield 38, 3) := by decide +kernel
theorem dX10_init_75 : decode cX10_init 75 = .ok (.aload_n 0, 1) := by decide +kernel
theorem dX10_init_76 : decode cX10_init 76 = .ok (.new 42, 3) := by decide +kernel
theorem dX10_init_79 : decode cX10_init 79 = .ok (.dup, 1) := by decide +kernel
theorem dX10_init_80 : decode cX10_init 80 = .ok (.invokespecial 44, 3) := by decide +kernel
theorem dX10_init_83 : decode cX10_init 83 = .ok (.putfield 45, 3) := by decide +kernel
theorem dX10_init_86 : decode cX10_init 86 = .ok (.aload_n 0, 1) := by decide +kernel
theorem dX10_init_87 : decode cX10_init 87 = .ok (.new 42, 3) := by decide +kernel
theorem dX10_init_90 : decode cX10_init 90 = .ok (.dup, 1) := by decide +kernel
theorem dX10_init_91 : decode cX10_init 91 = .ok (.invokespecial 44, 3) := by decide +kernel
theorem dX10_init_94 : decode cX10_init 94 = .ok (.putfield 49, 3) := by decide +kernel
theorem dX10_init_97 : decode cX10_init 97 = .ok (.aload_n 0, 1) := by decide +kernel
theorem dX10_init_98 : decode cX10_init 98 = .ok (.new 52, 3) := by decide +kernel
theorem dX10_init_101 : decode cX10_init 101 = .ok (.dup, 1) := by decide +kernel
theorem dX10_init_102 : decode cX10_init 102 = .ok (.invokespecial 54, 3) := by decide +kernel
theorem dX10_init_105 : decode cX10_init 105 = .ok (.putfield 55, 3) := by decide +kernel
theorem dX10_init_108 : decode cX10_init 108 = .ok (.aload_n 0, 1) := by decide +kernel
theorem dX10_init_109 : decode cX10_init 109 = .ok (.new 59, 3) := by decide +kernel
theorem dX10_init_112 : decode cX10_init 112 = .ok (.dup, 1) := by decide +kernel
theorem dX10_init_113 : decode cX10_init 113 = .ok (.aload_n 0, 1) := by decide +kernel
theorem dX10_init_114 : decode cX10_init 114 = .ok (.getfield 12, 3) := by decide +kernel
theorem dX10_init_117 : decode cX10_init 117 = .ok (.invokespecial 61, 3) := by decide +kernel
theorem dX10_init_120 : decode cX10_init 120 = .ok (.putfield 64, 3) := by decide +kernel
theorem dX10_init_123 : decode cX10_init 123 = .ok (.aload_n 0, 1) := by decide +kernel
theorem dX10_init_124 : decode cX10_init 124 = .ok (.new 68, 3) := by decide +kernel
theorem dX10_init_127 : decode cX10_init 127 = .ok (.dup, 1) := by decide +kernel
theorem dX10_init_128 : decode cX10_init 128 = .ok (.aload_n 0, 1) := by decide +kernel
theorem dX10_init_129 : decode cX10_init 129 = .ok (.getfield 64, 3) := by decide +kernel
theorem dX10_init_132 : decode cX10_init 132 = .ok (.aload_n 0, 1) := by decide +kernel
theorem dX10_init_133 : decode cX10_init 133 = .ok (.getfield 45, 3) := by decide +kernel
theorem dX10_init_136 : decode cX10_init 136 = .ok (.invokespecial 70, 3) := by decide +kernel
theorem dX10_init_139 : decode cX10_init 139 = .ok (.putfield 73, 3) := by decide +kernel
theorem dX10_init_142 : decode cX10_init 142 = .ok (.aload_n 0, 1) := by decide +kernel
theorem dX10_init_143 : decode cX10_init 143 = .ok (.new 68, 3) := by decide +kernel
theorem dX10_init_146 : decode cX10_init 146 = .ok (.dup, 1) := by decide +kernel
theorem dX10_init_147 : decode cX10_init 147 = .ok (.aload_n 0, 1) := by decide +kernel
theorem dX10_init_148 : decode cX10_init 148 = .ok (.getfield 64, 3) := by decide +kernel
theorem dX10_init_151 : decode cX10_init 151 = .ok (.aload_n 0, 1) := by decide +kernel
theorem dX10_init_152 : decode cX10_init 152 = .ok (.getfield 45, 3) := by decide +kernel
theorem dX10_init_155 : decode cX10_init 155 = .ok (.invokespecial 70, 3) := by decide +kernel
theorem dX10_init_158 : decode cX10_init 158 = .ok (.putfield 77, 3) := by decide +kernel
theorem dX10_init_161 : decode cX10_init 161 = .ok (.aload_n 0, 1) := by decide +kernel
theorem dX10_init_162 : decode cX10_init 162 = .ok (.new 80, 3) := by decide +kernel
theorem dX10_init_165 : decode cX10_init 165 = .ok (.dup, 1) := by decide +kernel
theorem dX10_init_166 : decode cX10_init 166 = .ok (.aload_n 0, 1) := by decide +kernel
theorem dX10_init_167 : decode cX10_init 167 = .ok (.getfield 23, 3) := by decide +kernel
theorem dX10_init_170 : decode cX10_init 170 = .ok (.invokespecial 82, 3) := by decide +kernel
theorem dX10_init_173 : decode cX10_init 173 = .ok (.putfield 85, 3) := by decide +kernel
theorem dX10_init_176 : decode cX10_init 176 = .ok (.aload_n 0, 1) := by decide +kernel
theorem dX10_init_177 : decode cX10_init 177 = .ok (.iconst 5, 1) := by decide +kernel
theorem dX10_init_178 : decode cX10_init 178 = .ok (.newarray .int, 2) := by decide +kernel
theorem dX10_init_180 : decode cX10_init 180 = .ok (.putfield 89, 3) := by decide +kernel
theorem dX10_init_183 : decode cX10_init 183 = .ok (.aload_n 0, 1) := by decide +kernel
theorem dX10_init_184 : decode cX10_init 184 = .ok (.bipush 64, 2) := by decide +kernel
theorem dX10_init_186 : decode cX10_init 186 = .ok (.newarray .long, 2) := by decide +kernel
theorem dX10_init_188 : decode cX10_init 188 = .ok (.putfield 93, 3) := by decide +kernel
theorem dX10_init_191 : decode cX10_init 191 = .ok (.return_, 1) := by decide +kernel
theorem dX10_feed_0 : decode cX10_feed 0 = .ok (.aload_n 0, 1) := by decide +kernel
theorem dX10_feed_1 : decode cX10_feed 1 = .ok (.getfield 19, 3) := by decide +kernel
theorem dX10_feed_4 : decode cX10_feed 4 = .ok (.getfield 97, 3) := by decide +kernel
theorem dX10_feed_7 : decode cX10_feed 7 = .ok (.bipush 20, 2) := by decide +kernel
theorem dX10_feed_9 : decode cX10_feed 9 = .ok (.iadd, 1) := by decide +kernel
theorem dX10_feed_10 : decode cX10_feed 10 = .ok (.sipush 320, 3) := by decide +kernel
theorem dX10_feed_13 : decode cX10_feed 13 = .ok (.if_icmp .le 5, 3) := by decide +kernel
theorem dX10_feed_16 : decode cX10_feed 16 = .ok (.iconst (-1), 1) := by decide +kernel
theorem dX10_feed_17 : decode cX10_feed 17 = .ok (.ireturn, 1) := by decide +kernel
theorem dX10_feed_18 : decode cX10_feed 18 = .ok (.aload_n 0, 1) := by decide +kernel
theorem dX10_feed_19 : decode cX10_feed 19 = .ok (.getfield 19, 3) := by decide +kernel
theorem dX10_feed_22 : decode cX10_feed 22 = .ok (.iload_n 1, 1) := by decide +kernel
theorem dX10_feed_23 : decode cX10_feed 23 = .ok (.invokevirtual 101, 3) := by decide +kernel
theorem dX10_feed_26 : decode cX10_feed 26 = .ok (.aload_n 0, 1) := by decide +kernel
theorem dX10_feed_27 : decode cX10_feed 27 = .ok (.getfield 19, 3) := by decide +kernel
theorem dX10_feed_30 : decode cX10_feed 30 = .ok (.iload_n 2, 1) := by decide +kernel
theorem dX10_feed_31 : decode cX10_feed 31 = .ok (.invokevirtual 101, 3) := by decide +kernel
theorem dX10_feed_34 : decode cX10_feed 34 = .ok (.aload_n 0, 1) := by decide +kernel
theorem dX10_feed_35 : decode cX10_feed 35 = .ok (.getfield 19, 3) := by decide +kernel
theorem dX10_feed_38 : decode cX10_feed 38 = .ok (.iload_n 3, 1) := by decide +kernel
theorem dX10_feed_39 : decode cX10_feed 39 = .ok (.invokevirtual 101, 3) := by decide +kernel
theorem dX10_feed_42 : decode cX10_feed 42 = .ok (.aload_n 0, 1) := by decide +kernel
theorem dX10_feed_43 : decode cX10_feed 43 = .ok (.getfield 19, 3) := by decide +kernel
theorem dX10_feed_46 : decode cX10_feed 46 = .ok (.iload 4, 2) := by decide +kernel
theorem dX10_feed_48 : decode cX10_feed 48 = .ok (.invokevirtual 101, 3) := by decide +kernel
theorem dX10_feed_51 : decode cX10_feed 51 = .ok (.aload_n 0, 1) := by decide +kernel
theorem dX10_feed_52 : decode cX10_feed 52 = .ok (.getfield 19, 3) := by decide +kernel
theorem dX10_feed_55 : decode cX10_feed 55 = .ok (.iload 5, 2) := by decide +kernel
theorem dX10_feed_57 : decode cX10_feed 57 = .ok (.invokevirtual 101, 3) := by decide +kernel
theorem dX10_feed_60 : decode cX10_feed 60 = .ok (.aload_n 0, 1) := by decide +kernel
theorem dX10_feed_61 : decode cX10_feed 61 = .ok (.getfield 19, 3) := by decide +kernel
theorem dX10_feed_64 : decode cX10_feed 64 = .ok (.getfield 97, 3) := by decide +kernel
theorem dX10_feed_67 : decode cX10_feed 67 = .ok (.ireturn, 1) := by decide +kernel
theorem dX10_end_0 : decode cX10_end 0 = .ok (.iload_n 1, 1) := by decide +kernel
theorem dX10_end_1 : decode cX10_end 1 = .ok (.ifCond .lt 14, 3) := by decide +kernel
theorem dX10_end_4 : decode cX10_end 4 = .ok (.iload_n 1, 1) := by decide +kernel
theorem dX10_end_5 : decode cX10_end 5 = .ok (.aload_n 0, 1) := by decide +kernel
theorem dX10_end_6 : decode cX10_end 6 = .ok (.getfield 19, 3) := by decide +kernel
theorem dX10_end_9 : decode cX10_end 9 = .ok (.getfield 97, 3) := by decide +kernel
theorem dX10_end_12 : decode cX10_end 12 = .ok (.if_icmp .le 5, 3) := by decide +kernel
theorem dX10_end_15 : decode cX10_end 15 = .ok (.iconst 0, 1) := by decide +kernel
theorem dX10_end_16 : decode cX10_end 16 = .ok (.ireturn, 1) := by decide +kernel
theorem dX10_end_17 : decode cX10_end 17 = .ok (.aload_n 0, 1) := by decide +kernel
theorem dX10_end_18 : decode cX10_end 18 = .ok (.getfield 19, 3) := by decide +kernel
theorem dX10_end_21 : decode cX10_end 21 = .ok (.iload_n 1, 1) := by decide +kernel
theorem dX10_end_22 : decode cX10_end 22 = .ok (.putfield 97, 3) := by decide +kernel
theorem dX10_end_25 : decode cX10_end 25 = .ok (.iconst 1, 1) := by decide +kernel
theorem dX10_end_26 : decode cX10_end 26 = .ok (.ireturn, 1) := by decide +kernel
theorem dX10_fault_0 : decode cX10_fault 0 = .ok (.iload_n 1, 1) := by decide +kernel
theorem dX10_fault_1 : decode cX10_fault 1 = .ok (.ifCond .ne 11, 3) := by decide +kernel
theorem dX10_fault_4 : decode cX10_fault 4 = .ok (.aload_n 0, 1) := by decide +kernel
theorem dX10_fault_5 : decode cX10_fault 5 = .ok (.getfield 31, 3) := by decide +kernel
theorem dX10_fault_8 : decode cX10_fault 8 = .ok (.invokevirtual 105, 3) := by decide +kernel
theorem dX10_fault_11 : decode cX10_fault 11 = .ok (.ireturn, 1) := by decide +kernel
theorem dX10_fault_12 : decode cX10_fault 12 = .ok (.iload_n 1, 1) := by decide +kernel
theorem dX10_fault_13 : decode cX10_fault 13 = .ok (.iconst 1, 1) := by decide +kernel
theorem dX10_fault_14 : decode cX10_fault 14 = .ok (.if_icmp .ne 11, 3) := by decide +kernel
theorem dX10_fault_17 : decode cX10_fault 17 = .ok (.aload_n 0, 1) := by decide +kernel
theorem dX10_fault_18 : decode cX10_fault 18 = .ok (.getfield 38, 3) := by decide +kernel
theorem dX10_fault_21 : decode cX10_fault 21 = .ok (.invokevirtual 109, 3) := by decide +kernel
theorem dX10_fault_24 : decode cX10_fault 24 = .ok (.ireturn, 1) := by decide +kernel
theorem dX10_fault_25 : decode cX10_fault 25 = .ok (.bipush (-2), 2) := by decide +kernel
theorem dX10_fault_27 : decode cX10_fault 27 = .ok (.ireturn, 1) := by decide +kernel
theorem dX10_text_0 : decode cX10_text 0 = .ok (.aload_n 0, 1) := by decide +kernel
theorem dX10_text_1 : decode cX10_text 1 = .ok (.getfield 31, 3) := by decide +kernel
theorem dX10_text_4 : decode cX10_text 4 = .ok (.invokevirtual 105, 3) := by decide +kernel
theorem dX10_text_7 : decode cX10_text 7 = .ok (.iconst (-1), 1) := by decide +kernel
theorem dX10_text_8 : decode cX10_text 8 = .ok (.if_icmp .eq 5, 3) := by decide +kernel
theorem dX10_text_11 : decode cX10_text 11 = .ok (.iconst (-1), 1) := by decide +kernel
theorem dX10_text_12 : decode cX10_text 12 = .ok (.ireturn, 1) := by decide +kernel
theorem dX10_text_13 : decode cX10_text 13 = .ok (.aload_n 0, 1) := by decide +kernel
theorem dX10_text_14 : decode cX10_text 14 = .ok (.getfield 45, 3) := by decide +kernel
theorem dX10_text_17 : decode cX10_text 17 = .ok (.aload_n 0, 1) := by decide +kernel
theorem dX10_text_18 : decode cX10_text 18 = .ok (.getfield 31, 3) := by decide +kernel
theorem dX10_text_21 : decode cX10_text 21 = .ok (.getfield 110, 3) := by decide +kernel
theorem dX10_text_24 : decode cX10_text 24 = .ok (.invokevirtual 111, 3) := by decide +kernel
theorem dX10_text_27 : decode cX10_text 27 = .ok (.aload_n 0, 1) := by decide +kernel
theorem dX10_text_28 : decode cX10_text 28 = .ok (.getfield 55, 3) := by decide +kernel
theorem dX10_text_31 : decode cX10_text 31 = .ok (.iconst 0, 1) := by decide +kernel
theorem dX10_text_32 : decode cX10_text 32 = .ok (.putfield 115, 3) := by decide +kernel
theorem dX10_text_35 : decode cX10_text 35 = .ok (.aload_n 0, 1) := by decide +kernel
theorem dX10_text_36 : decode cX10_text 36 = .ok (.iconst 0, 1) := by decide +kernel
theorem dX10_text_37 : decode cX10_text 37 = .ok (.putfield 118, 3) := by decide +kernel
theorem dX10_text_40 : decode cX10_text 40 = .ok (.aload_n 0, 1) := by decide +kernel
theorem dX10_text_41 : decode cX10_text 41 = .ok (.getfield 23, 3) := by decide +kernel
theorem dX10_text_44 : decode cX10_text 44 = .ok (.iconst 0, 1) := by decide +kernel
theorem dX10_text_45 : decode cX10_text 45 = .ok (.putfield 97, 3) := by decide +kernel
theorem dX10_text_48 : decode cX10_text 48 = .ok (.aload_n 0, 1) := by decide +kernel
theorem dX10_text_49 : decode cX10_text 49 = .ok (.getfield 19, 3) := by decide +kernel
theorem dX10_text_52 : decode cX10_text 52 = .ok (.iconst 0, 1) := by decide +kernel
theorem dX10_text_53 : decode cX10_text 53 = .ok (.putfield 97, 3) := by decide +kernel
theorem dX10_text_56 : decode cX10_text 56 = .ok (.aload_n 0, 1) := by decide +kernel
theorem dX10_text_57 : decode cX10_text 57 = .ok (.iconst 1, 1) := by decide +kernel
theorem dX10_text_58 : decode cX10_text 58 = .ok (.putfield 122, 3) := by decide +kernel
theorem dX10_text_61 : decode cX10_text 61 = .ok (.aload_n 0, 1) := by decide +kernel
theorem dX10_text_62 : decode cX10_text 62 = .ok (.iconst 1, 1) := by decide +kernel
theorem dX10_text_63 : decode cX10_text 63 = .ok (.putfield 125, 3) := by decide +kernel
theorem dX10_text_66 : decode cX10_text 66 = .ok (.aload_n 0, 1) := by decide +kernel
theorem dX10_text_67 : decode cX10_text 67 = .ok (.getfield 45, 3) := by decide +kernel
theorem dX10_text_70 : decode cX10_text 70 = .ok (.getfield 128, 3) := by decide +kernel
theorem dX10_text_73 : decode cX10_text 73 = .ok (.ireturn, 1) := by decide +kernel
theorem dX10_peek_0 : decode cX10_peek 0 = .ok (.aload_n 0, 1) := by decide +kernel
theorem dX10_peek_1 : decode cX10_peek 1 = .ok (.getfield 38, 3) := by decide +kernel
theorem dX10_peek_4 : decode cX10_peek 4 = .ok (.invokevirtual 109, 3) := by decide +kernel
theorem dX10_peek_7 : decode cX10_peek 7 = .ok (.iconst (-1), 1) := by decide +kernel
theorem dX10_peek_8 : decode cX10_peek 8 = .ok (.if_icmp .ne 18, 3) := by decide +kernel
theorem dX10_peek_11 : decode cX10_peek 11 = .ok (.iload_n 1, 1) := by decide +kernel
theorem dX10_peek_12 : decode cX10_peek 12 = .ok (.ifCond .lt 14, 3) := by decide +kernel
theorem dX10_peek_15 : decode cX10_peek 15 = .ok (.iload_n 1, 1) := by decide +kernel
theorem dX10_peek_16 : decode cX10_peek 16 = .ok (.aload_n 0, 1) := by decide +kernel
theorem dX10_peek_17 : decode cX10_peek 17 = .ok (.getfield 38, 3) := by decide +kernel
theorem dX10_peek_20 : decode cX10_peek 20 = .ok (.getfield 131, 3) := by decide +kernel
theorem dX10_peek_23 : decode cX10_peek 23 = .ok (.if_icmp .lt 7, 3) := by decide +kernel
theorem dX10_peek_26 : decode cX10_peek 26 = .ok (.ldc2_w 132, 3) := by decide +kernel
theorem dX10_peek_29 : decode cX10_peek 29 = .ok (.lreturn, 1) := by decide +kernel
theorem dX10_peek_30 : decode cX10_peek 30 = .ok (.aload_n 0, 1) := by decide +kernel
theorem dX10_peek_31 : decode cX10_peek 31 = .ok (.getfield 38, 3) := by decide +kernel
theorem dX10_peek_34 : decode cX10_peek 34 = .ok (.getfield 134, 3) := by decide +kernel
theorem dX10_peek_37 : decode cX10_peek 37 = .ok (.iload_n 1, 1) := by decide +kernel
theorem dX10_peek_38 : decode cX10_peek 38 = .ok (.laload, 1) := by decide +kernel
theorem dX10_peek_39 : decode cX10_peek 39 = .ok (.lreturn, 1) := by decide +kernel
theorem dX10_rule_0 : decode cX10_rule 0 = .ok (.aload_n 0, 1) := by decide +kernel
theorem dX10_rule_1 : decode cX10_rule 1 = .ok (.getfield 122, 3) := by decide +kernel
theorem dX10_rule_4 : decode cX10_rule 4 = .ok (.ifCond .eq 10, 3) := by decide +kernel
theorem dX10_rule_7 : decode cX10_rule 7 = .ok (.iload_n 1, 1) := by decide +kernel
theorem dX10_rule_8 : decode cX10_rule 8 = .ok (.invokestatic 137, 3) := by decide +kernel
theorem dX10_rule_11 : decode cX10_rule 11 = .ok (.ifCond .ne 5, 3) := by decide +kernel
theorem dX10_rule_14 : decode cX10_rule 14 = .ok (.iconst (-1), 1) := by decide +kernel
theorem dX10_rule_15 : decode cX10_rule 15 = .ok (.ireturn, 1) := by decide +kernel
theorem dX10_rule_16 : decode cX10_rule 16 = .ok (.aload_n 0, 1) := by decide +kernel
theorem dX10_rule_17 : decode cX10_rule 17 = .ok (.getfield 45, 3) := by decide +kernel
theorem dX10_rule_20 : decode cX10_rule 20 = .ok (.getfield 141, 3) := by decide +kernel
theorem dX10_rule_23 : decode cX10_rule 23 = .ok (.iload_n 1, 1) := by decide +kernel
theorem dX10_rule_24 : decode cX10_rule 24 = .ok (.iaload, 1) := by decide +kernel
theorem dX10_rule_25 : decode cX10_rule 25 = .ok (.ireturn, 1) := by decide +kernel
theorem dX10_value_0 : decode cX10_value 0 = .ok (.aload_n 0, 1) := by decide +kernel
theorem dX10_value_1 : decode cX10_value 1 = .ok (.iload_n 1, 1) := by decide +kernel
theorem dX10_value_2 : decode cX10_value 2 = .ok (.invokevirtual 144, 3) := by decide +kernel
theorem dX10_value_5 : decode cX10_value 5 = .ok (.ifCond .ne 13, 3) := by decide +kernel
theorem dX10_value_8 : decode cX10_value 8 = .ok (.new 147, 3) := by decide +kernel
theorem dX10_value_11 : decode cX10_value 11 = .ok (.dup, 1) := by decide +kernel
theorem dX10_value_12 : decode cX10_value 12 = .ok (.ldc 149, 2) := by decide +kernel
theorem dX10_value_14 : decode cX10_value 14 = .ok (.invokespecial 151, 3) := by decide +kernel
theorem dX10_value_17 : decode cX10_value 17 = .ok (.athrow, 1) := by decide +kernel
theorem dX10_value_18 : decode cX10_value 18 = .ok (.aload_n 0, 1) := by decide +kernel
theorem dX10_value_19 : decode cX10_value 19 = .ok (.getfield 45, 3) := by decide +kernel
theorem dX10_value_22 : decode cX10_value 22 = .ok (.getfield 154, 3) := by decide +kernel
theorem dX10_value_25 : decode cX10_value 25 = .ok (.iload_n 1, 1) := by decide +kernel
theorem dX10_value_26 : decode cX10_value 26 = .ok (.laload, 1) := by decide +kernel
theorem dX10_value_27 : decode cX10_value 27 = .ok (.lreturn, 1) := by decide +kernel
theorem dX10_about_0 : decode cX10_about 0 = .ok (.aload_n 0, 1) := by decide +kernel
theorem dX10_about_1 : decode cX10_about 1 = .ok (.iload_n 1, 1) := by decide +kernel
theorem dX10_about_2 : decode cX10_about 2 = .ok (.invokevirtual 144, 3) := by decide +kernel
theorem dX10_about_5 : decode cX10_about 5 = .ok (.ifCond .ne 6, 3) := by decide +kernel
theorem dX10_about_8 : decode cX10_about 8 = .ok (.ldc 157, 2) := by decide +kernel
theorem dX10_about_10 : decode cX10_about 10 = .ok (.ireturn, 1) := by decide +kernel
theorem dX10_about_11 : decode cX10_about 11 = .ok (.iload_n 2, 1) := by decide +kernel
theorem dX10_about_12 : decode cX10_about 12 = .ok (.tableswitch 135 0 6 #[44, 65, 78, 91, 100, 109, 126], 44) := by decide +kernel
theorem dX10_about_56 : decode cX10_about 56 = .ok (.aload_n 0, 1) := by decide +kernel
theorem dX10_about_57 : decode cX10_about 57 = .ok (.getfield 45, 3) := by decide +kernel
theorem dX10_about_60 : decode cX10_about 60 = .ok (.getfield 154, 3) := by decide +kernel
theorem dX10_about_63 : decode cX10_about 63 = .ok (.iload_n 1, 1) := by decide +kernel
theorem dX10_about_64 : decode cX10_about 64 = .ok (.laload, 1) := by decide +kernel
theorem dX10_about_65 : decode cX10_about 65 = .ok (.invokestatic 158, 3) := by decide +kernel
theorem dX10_about_68 : decode cX10_about 68 = .ok (.ifCond .eq 7, 3) := by decide +kernel
theorem dX10_about_71 : decode cX10_about 71 = .ok (.iconst 1, 1) := by decide +kernel
theorem dX10_about_72 : decode cX10_about 72 = .ok (.goto 4, 3) := by decide +kernel
theorem dX10_about_75 : decode cX10_about 75 = .ok (.iconst 0, 1) := by decide +kernel
theorem dX10_about_76 : decode cX10_about 76 = .ok (.ireturn, 1) := by decide +kernel
theorem dX10_about_77 : decode cX10_about 77 = .ok (.aload_n 0, 1) := by decide +kernel
theorem dX10_about_78 : decode cX10_about 78 = .ok (.iload_n 1, 1) := by decide +kernel
theorem dX10_about_79 : decode cX10_about 79 = .ok (.aload_n 0, 1) := by decide +kernel
theorem dX10_about_80 : decode cX10_about 80 = .ok (.invokevirtual 162, 3) := by decide +kernel
theorem dX10_about_83 : decode cX10_about 83 = .ok (.invokevirtual 166, 3) := by decide +kernel
theorem dX10_about_86 : decode cX10_about 86 = .ok (.invokevirtual 169, 3) := by decide +kernel
theorem dX10_about_89 : decode cX10_about 89 = .ok (.ireturn, 1) := by decide +kernel
theorem dX10_about_90 : decode cX10_about 90 = .ok (.aload_n 0, 1) := by decide +kernel
theorem dX10_about_91 : decode cX10_about 91 = .ok (.iload_n 1, 1) := by decide +kernel
theorem dX10_about_92 : decode cX10_about 92 = .ok (.aload_n 0, 1) := by decide +kernel
theorem dX10_about_93 : decode cX10_about 93 = .ok (.invokevirtual 162, 3) := by decide +kernel
theorem dX10_about_96 : decode cX10_about 96 = .ok (.invokevirtual 166, 3) := by decide +kernel
theorem dX10_about_99 : decode cX10_about 99 = .ok (.invokevirtual 173, 3) := by decide +kernel
theorem dX10_about_102 : decode cX10_about 102 = .ok (.ireturn, 1) := by decide +kernel
theorem dX10_about_103 : decode cX10_about 103 = .ok (.aload_n 0, 1) := by decide +kernel
theorem dX10_about_104 : decode cX10_about 104 = .ok (.invokevirtual 162, 3) := by decide +kernel
theorem dX10_about_107 : decode cX10_about 107 = .ok (.iload_n 1, 1) := by decide +kernel
theorem dX10_about_108 : decode cX10_about 108 = .ok (.invokevirtual 176, 3) := by decide +kernel
theorem dX10_about_111 : decode cX10_about 111 = .ok (.ireturn, 1) := by decide +kernel
theorem dX10_about_112 : decode cX10_about 112 = .ok (.aload_n 0, 1) := by decide +kernel
theorem dX10_about_113 : decode cX10_about 113 = .ok (.invokevirtual 162, 3) := by decide +kernel
theorem dX10_about_116 : decode cX10_about 116 = .ok (.iload_n 1, 1) := by decide +kernel
theorem dX10_about_117 : decode cX10_about 117 = .ok (.invokevirtual 180, 3) := by decide +kernel
theorem dX10_about_120 : decode cX10_about 120 = .ok (.ireturn, 1) := by decide +kernel
theorem dX10_about_121 : decode cX10_about 121 = .ok (.aload_n 0, 1) := by decide +kernel
theorem dX10_about_122 : decode cX10_about 122 = .ok (.invokevirtual 162, 3) := by decide +kernel
theorem dX10_about_125 : decode cX10_about 125 = .ok (.iload_n 1, 1) := by decide +kernel
theorem dX10_about_126 : decode cX10_about 126 = .ok (.invokevirtual 183, 3) := by decide +kernel
theorem dX10_about_129 : decode cX10_about 129 = .ok (.ifCond .eq 7, 3) := by decide +kernel
theorem dX10_about_132 : decode cX10_about 132 = .ok (.iconst 1, 1) := by decide +kernel
theorem dX10_about_133 : decode cX10_about 133 = .ok (.goto 4, 3) := by decide +kernel
theorem dX10_about_136 : decode cX10_about 136 = .ok (.iconst 0, 1) := by decide +kernel
theorem dX10_about_137 : decode cX10_about 137 = .ok (.ireturn, 1) := by decide +kernel
theorem dX10_about_138 : decode cX10_about 138 = .ok (.aload_n 0, 1) := by decide +kernel
theorem dX10_about_139 : decode cX10_about 139 = .ok (.getfield 45, 3) := by decide +kernel
theorem dX10_about_142 : decode cX10_about 142 = .ok (.iload_n 1, 1) := by decide +kernel
theorem dX10_about_143 : decode cX10_about 143 = .ok (.invokevirtual 186, 3) := by decide +kernel
theorem dX10_about_146 : decode cX10_about 146 = .ok (.ireturn, 1) := by decide +kernel
theorem dX10_about_147 : decode cX10_about 147 = .ok (.ldc 157, 2) := by decide +kernel
theorem dX10_about_149 : decode cX10_about 149 = .ok (.ireturn, 1) := by decide +kernel
theorem dX10_guise_0 : decode cX10_guise 0 = .ok (.aload_n 0, 1) := by decide +kernel
theorem dX10_guise_1 : decode cX10_guise 1 = .ok (.iload_n 1, 1) := by decide +kernel
theorem dX10_guise_2 : decode cX10_guise 2 = .ok (.invokevirtual 144, 3) := by decide +kernel
theorem dX10_guise_5 : decode cX10_guise 5 = .ok (.ifCond .eq 11, 3) := by decide +kernel
theorem dX10_guise_8 : decode cX10_guise 8 = .ok (.iload_n 2, 1) := by decide +kernel
theorem dX10_guise_9 : decode cX10_guise 9 = .ok (.iload_n 3, 1) := by decide +kernel
theorem dX10_guise_10 : decode cX10_guise 10 = .ok (.invokestatic 189, 3) := by decide +kernel
theorem dX10_guise_13 : decode cX10_guise 13 = .ok (.ifCond .ne 7, 3) := by decide +kernel
theorem dX10_guise_16 : decode cX10_guise 16 = .ok (.ldc2_w 132, 3) := by decide +kernel
theorem dX10_guise_19 : decode cX10_guise 19 = .ok (.lreturn, 1) := by decide +kernel
theorem dX10_guise_20 : decode cX10_guise 20 = .ok (.aload_n 0, 1) := by decide +kernel
theorem dX10_guise_21 : decode cX10_guise 21 = .ok (.invokevirtual 162, 3) := by decide +kernel
theorem dX10_guise_24 : decode cX10_guise 24 = .ok (.pop, 1) := by decide +kernel
theorem dX10_guise_25 : decode cX10_guise 25 = .ok (.aload_n 0, 1) := by decide +kernel
theorem dX10_guise_26 : decode cX10_guise 26 = .ok (.getfield 64, 3) := by decide +kernel
theorem dX10_guise_29 : decode cX10_guise 29 = .ok (.iload_n 1, 1) := by decide +kernel
theorem dX10_guise_30 : decode cX10_guise 30 = .ok (.iload_n 2, 1) := by decide +kernel
theorem dX10_guise_31 : decode cX10_guise 31 = .ok (.iload_n 3, 1) := by decide +kernel
theorem dX10_guise_32 : decode cX10_guise 32 = .ok (.invokestatic 193, 3) := by decide +kernel
theorem dX10_guise_35 : decode cX10_guise 35 = .ok (.invokevirtual 196, 3) := by decide +kernel
theorem dX10_guise_38 : decode cX10_guise 38 = .ok (.lstore 4, 2) := by decide +kernel
theorem dX10_guise_40 : decode cX10_guise 40 = .ok (.lload 4, 2) := by decide +kernel
theorem dX10_guise_42 : decode cX10_guise 42 = .ok (.ldc2_w 200, 3) := by decide +kernel
theorem dX10_guise_45 : decode cX10_guise 45 = .ok (.lcmp, 1) := by decide +kernel
theorem dX10_guise_46 : decode cX10_guise 46 = .ok (.ifCond .ne 9, 3) := by decide +kernel
theorem dX10_guise_49 : decode cX10_guise 49 = .ok (.ldc2_w 132, 3) := by decide +kernel
theorem dX10_guise_52 : decode cX10_guise 52 = .ok (.goto 5, 3) := by decide +kernel
theorem dX10_guise_55 : decode cX10_guise 55 = .ok (.lload 4, 2) := by decide +kernel
theorem dX10_guise_57 : decode cX10_guise 57 = .ok (.lreturn, 1) := by decide +kernel
theorem dX10_common_0 : decode cX10_common 0 = .ok (.aload_n 0, 1) := by decide +kernel
theorem dX10_common_1 : decode cX10_common 1 = .ok (.getfield 122, 3) := by decide +kernel
theorem dX10_common_4 : decode cX10_common 4 = .ok (.ifCond .eq 22, 3) := by decide +kernel
theorem dX10_common_7 : decode cX10_common 7 = .ok (.aload_n 0, 1) := by decide +kernel
theorem dX10_common_8 : decode cX10_common 8 = .ok (.getfield 45, 3) := by decide +kernel
theorem dX10_common_11 : decode cX10_common 11 = .ok (.getfield 128, 3) := by decide +kernel
theorem dX10_common_14 : decode cX10_common 14 = .ok (.ifCond .eq 12, 3) := by decide +kernel
theorem dX10_common_17 : decode cX10_common 17 = .ok (.iload_n 1, 1) := by decide +kernel
theorem dX10_common_18 : decode cX10_common 18 = .ok (.ifCond .lt 8, 3) := by decide +kernel
theorem dX10_common_21 : decode cX10_common 21 = .ok (.iload_n 1, 1) := by decide +kernel
theorem dX10_common_22 : decode cX10_common 22 = .ok (.iconst 1, 1) := by decide +kernel
theorem dX10_common_23 : decode cX10_common 23 = .ok (.if_icmp .le 7, 3) := by decide +kernel
theorem dX10_common_26 : decode cX10_common 26 = .ok (.ldc2_w 132, 3) := by decide +kernel
theorem dX10_common_29 : decode cX10_common 29 = .ok (.lreturn, 1) := by decide +kernel
theorem dX10_common_30 : decode cX10_common 30 = .ok (.iconst 0, 1) := by decide +kernel
theorem dX10_common_31 : decode cX10_common 31 = .ok (.istore_n 2, 1) := by decide +kernel
theorem dX10_common_32 : decode cX10_common 32 = .ok (.iconst 0, 1) := by decide +kernel
theorem dX10_common_33 : decode cX10_common 33 = .ok (.istore_n 3, 1) := by decide +kernel
theorem dX10_common_34 : decode cX10_common 34 = .ok (.iconst 0, 1) := by decide +kernel
theorem dX10_common_35 : decode cX10_common 35 = .ok (.istore 4, 2) := by decide +kernel
theorem dX10_common_37 : decode cX10_common 37 = .ok (.iload 4, 2) := by decide +kernel
theorem dX10_common_39 : decode cX10_common 39 = .ok (.aload_n 0, 1) := by decide +kernel
theorem dX10_common_40 : decode cX10_common 40 = .ok (.getfield 45, 3) := by decide +kernel
theorem dX10_common_43 : decode cX10_common 43 = .ok (.getfield 128, 3) := by decide +kernel
theorem dX10_common_46 : decode cX10_common 46 = .ok (.if_icmp .ge 32, 3) := by decide +kernel
theorem dX10_common_49 : decode cX10_common 49 = .ok (.aload_n 0, 1) := by decide +kernel
theorem dX10_common_50 : decode cX10_common 50 = .ok (.getfield 45, 3) := by decide +kernel
theorem dX10_common_53 : decode cX10_common 53 = .ok (.iload 4, 2) := by decide +kernel
theorem dX10_common_55 : decode cX10_common 55 = .ok (.invokevirtual 202, 3) := by decide +kernel
theorem dX10_common_58 : decode cX10_common 58 = .ok (.istore 5, 2) := by decide +kernel
theorem dX10_common_60 : decode cX10_common 60 = .ok (.iload 5, 2) := by decide +kernel
theorem dX10_common_62 : decode cX10_common 62 = .ok (.iload_n 2, 1) := by decide +kernel
theorem dX10_common_63 : decode cX10_common 63 = .ok (.if_icmp .le 9, 3) := by decide +kernel
theorem dX10_common_66 : decode cX10_common 66 = .ok (.iload 5, 2) := by decide +kernel
theorem dX10_common_68 : decode cX10_common 68 = .ok (.istore_n 2, 1) := by decide +kernel
theorem dX10_common_69 : decode cX10_common 69 = .ok (.iload 4, 2) := by decide +kernel
theorem dX10_common_71 : decode cX10_common 71 = .ok (.istore_n 3, 1) := by decide +kernel
theorem dX10_common_72 : decode cX10_common 72 = .ok (.iinc 4 1, 3) := by decide +kernel
theorem dX10_common_75 : decode cX10_common 75 = .ok (.goto (-38), 3) := by decide +kernel
theorem dX10_common_78 : decode cX10_common 78 = .ok (.iload_n 1, 1) := by decide +kernel
theorem dX10_common_79 : decode cX10_common 79 = .ok (.ifCond .ne 15, 3) := by decide +kernel
theorem dX10_common_82 : decode cX10_common 82 = .ok (.aload_n 0, 1) := by decide +kernel
theorem dX10_common_83 : decode cX10_common 83 = .ok (.getfield 45, 3) := by decide +kernel
theorem dX10_common_86 : decode cX10_common 86 = .ok (.getfield 154, 3) := by decide +kernel
theorem dX10_common_89 : decode cX10_common 89 = .ok (.iload_n 3, 1) := by decide +kernel
theorem dX10_common_90 : decode cX10_common 90 = .ok (.laload, 1) := by decide +kernel
theorem dX10_common_91 : decode cX10_common 91 = .ok (.goto 5, 3) := by decide +kernel
theorem dX10_common_94 : decode cX10_common 94 = .ok (.iload_n 2, 1) := by decide +kernel
theorem dX10_common_95 : decode cX10_common 95 = .ok (.i2l, 1) := by decide +kernel
theorem dX10_common_96 : decode cX10_common 96 = .ok (.lreturn, 1) := by decide +kernel
theorem dX10_sum_0 : decode cX10_sum 0 = .ok (.aload_n 0, 1) := by decide +kernel
theorem dX10_sum_1 : decode cX10_sum 1 = .ok (.getfield 122, 3) := by decide +kernel
theorem dX10_sum_4 : decode cX10_sum 4 = .ok (.ifCond .eq 12, 3) := by decide +kernel
theorem dX10_sum_7 : decode cX10_sum 7 = .ok (.iload_n 1, 1) := by decide +kernel
theorem dX10_sum_8 : decode cX10_sum 8 = .ok (.ifCond .lt 8, 3) := by decide +kernel
theorem dX10_sum_11 : decode cX10_sum 11 = .ok (.iload_n 1, 1) := by decide +kernel
theorem dX10_sum_12 : decode cX10_sum 12 = .ok (.iconst 1, 1) := by decide +kernel
theorem dX10_sum_13 : decode cX10_sum 13 = .ok (.if_icmp .le 7, 3) := by decide +kernel
theorem dX10_sum_16 : decode cX10_sum 16 = .ok (.ldc2_w 132, 3) := by decide +kernel
theorem dX10_sum_19 : decode cX10_sum 19 = .ok (.lreturn, 1) := by decide +kernel
theorem dX10_sum_20 : decode cX10_sum 20 = .ok (.iload_n 1, 1) := by decide +kernel
theorem dX10_sum_21 : decode cX10_sum 21 = .ok (.ifCond .ne 10, 3) := by decide +kernel
theorem dX10_sum_24 : decode cX10_sum 24 = .ok (.aload_n 0, 1) := by decide +kernel
theorem dX10_sum_25 : decode cX10_sum 25 = .ok (.invokevirtual 205, 3) := by decide +kernel
theorem dX10_sum_28 : decode cX10_sum 28 = .ok (.goto 7, 3) := by decide +kernel
theorem dX10_sum_31 : decode cX10_sum 31 = .ok (.aload_n 0, 1) := by decide +kernel
theorem dX10_sum_32 : decode cX10_sum 32 = .ok (.invokevirtual 209, 3) := by decide +kernel
theorem dX10_sum_35 : decode cX10_sum 35 = .ok (.lreturn, 1) := by decide +kernel
theorem dX10_near_0 : decode cX10_near 0 = .ok (.aload_n 0, 1) := by decide +kernel
theorem dX10_near_1 : decode cX10_near 1 = .ok (.iload_n 1, 1) := by decide +kernel
theorem dX10_near_2 : decode cX10_near 2 = .ok (.invokevirtual 144, 3) := by decide +kernel
theorem dX10_near_5 : decode cX10_near 5 = .ok (.ifCond .eq 11, 3) := by decide +kernel
theorem dX10_near_8 : decode cX10_near 8 = .ok (.aload_n 0, 1) := by decide +kernel
theorem dX10_near_9 : decode cX10_near 9 = .ok (.iload_n 2, 1) := by decide +kernel
theorem dX10_near_10 : decode cX10_near 10 = .ok (.invokevirtual 144, 3) := by decide +kernel
theorem dX10_near_13 : decode cX10_near 13 = .ok (.ifCond .ne 5, 3) := by decide +kernel
theorem dX10_near_16 : decode cX10_near 16 = .ok (.iconst (-1), 1) := by decide +kernel
theorem dX10_near_17 : decode cX10_near 17 = .ok (.ireturn, 1) := by decide +kernel
theorem dX10_near_18 : decode cX10_near 18 = .ok (.aload_n 0, 1) := by decide +kernel
theorem dX10_near_19 : decode cX10_near 19 = .ok (.getfield 45, 3) := by decide +kernel
theorem dX10_near_22 : decode cX10_near 22 = .ok (.getfield 154, 3) := by decide +kernel
theorem dX10_near_25 : decode cX10_near 25 = .ok (.iload_n 1, 1) := by decide +kernel
theorem dX10_near_26 : decode cX10_near 26 = .ok (.laload, 1) := by decide +kernel
theorem dX10_near_27 : decode cX10_near 27 = .ok (.aload_n 0, 1) := by decide +kernel
theorem dX10_near_28 : decode cX10_near 28 = .ok (.getfield 45, 3) := by decide +kernel
theorem dX10_near_31 : decode cX10_near 31 = .ok (.getfield 154, 3) := by decide +kernel
theorem dX10_near_34 : decode cX10_near 34 = .ok (.iload_n 2, 1) := by decide +kernel
theorem dX10_near_35 : decode cX10_near 35 = .ok (.laload, 1) := by decide +kernel
theorem dX10_near_36 : decode cX10_near 36 = .ok (.lxor, 1) := by decide +kernel
theorem dX10_near_37 : decode cX10_near 37 = .ok (.invokestatic 212, 3) := by decide +kernel
theorem dX10_near_40 : decode cX10_near 40 = .ok (.ireturn, 1) := by decide +kernel
theorem dX10_cost_0 : decode cX10_cost 0 = .ok (.aload_n 0, 1) := by decide +kernel
theorem dX10_cost_1 : decode cX10_cost 1 = .ok (.iload_n 1, 1) := by decide +kernel
theorem dX10_cost_2 : decode cX10_cost 2 = .ok (.invokevirtual 218, 3) := by decide +kernel
theorem dX10_cost_5 : decode cX10_cost 5 = .ok (.ifCond .eq 11, 3) := by decide +kernel
theorem dX10_cost_8 : decode cX10_cost 8 = .ok (.iload_n 2, 1) := by decide +kernel
theorem dX10_cost_9 : decode cX10_cost 9 = .ok (.iload_n 3, 1) := by decide +kernel
theorem dX10_cost_10 : decode cX10_cost 10 = .ok (.invokestatic 189, 3) := by decide +kernel
theorem dX10_cost_13 : decode cX10_cost 13 = .ok (.ifCond .ne 5, 3) := by decide +kernel
theorem dX10_cost_16 : decode cX10_cost 16 = .ok (.iconst (-1), 1) := by decide +kernel
theorem dX10_cost_17 : decode cX10_cost 17 = .ok (.ireturn, 1) := by decide +kernel
theorem dX10_cost_18 : decode cX10_cost 18 = .ok (.aload_n 0, 1) := by decide +kernel
theorem dX10_cost_19 : decode cX10_cost 19 = .ok (.invokevirtual 162, 3) := by decide +kernel
theorem dX10_cost_22 : decode cX10_cost 22 = .ok (.iload_n 1, 1) := by decide +kernel
theorem dX10_cost_23 : decode cX10_cost 23 = .ok (.iload_n 2, 1) := by decide +kernel
theorem dX10_cost_24 : decode cX10_cost 24 = .ok (.iload_n 3, 1) := by decide +kernel
theorem dX10_cost_25 : decode cX10_cost 25 = .ok (.invokestatic 193, 3) := by decide +kernel
theorem dX10_cost_28 : decode cX10_cost 28 = .ok (.invokevirtual 221, 3) := by decide +kernel
theorem dX10_cost_31 : decode cX10_cost 31 = .ok (.ireturn, 1) := by decide +kernel
theorem dX10_score_0 : decode cX10_score 0 = .ok (.aload_n 0, 1) := by decide +kernel
theorem dX10_score_1 : decode cX10_score 1 = .ok (.getfield 122, 3) := by decide +kernel
theorem dX10_score_4 : decode cX10_score 4 = .ok (.ifCond .eq 11, 3) := by decide +kernel
theorem dX10_score_7 : decode cX10_score 7 = .ok (.iload_n 1, 1) := by decide +kernel
theorem dX10_score_8 : decode cX10_score 8 = .ok (.iload_n 2, 1) := by decide +kernel
theorem dX10_score_9 : decode cX10_score 9 = .ok (.invokestatic 189, 3) := by decide +kernel
theorem dX10_score_12 : decode cX10_score 12 = .ok (.ifCond .ne 5, 3) := by decide +kernel
theorem dX10_score_15 : decode cX10_score 15 = .ok (.iconst (-1), 1) := by decide +kernel
theorem dX10_score_16 : decode cX10_score 16 = .ok (.ireturn, 1) := by decide +kernel
theorem dX10_score_17 : decode cX10_score 17 = .ok (.aload_n 0, 1) := by decide +kernel
theorem dX10_score_18 : decode cX10_score 18 = .ok (.invokevirtual 162, 3) := by decide +kernel
theorem dX10_score_21 : decode cX10_score 21 = .ok (.iload_n 1, 1) := by decide +kernel
theorem dX10_score_22 : decode cX10_score 22 = .ok (.iload_n 2, 1) := by decide +kernel
theorem dX10_score_23 : decode cX10_score 23 = .ok (.invokestatic 193, 3) := by decide +kernel
theorem dX10_score_26 : decode cX10_score 26 = .ok (.invokevirtual 224, 3) := by decide +kernel
theorem dX10_score_29 : decode cX10_score 29 = .ok (.ireturn, 1) := by decide +kernel
theorem dX10_five_0 : decode cX10_five 0 = .ok (.aload_n 0, 1) := by decide +kernel
theorem dX10_five_1 : decode cX10_five 1 = .ok (.getfield 122, 3) := by decide +kernel
theorem dX10_five_4 : decode cX10_five 4 = .ok (.ifCond .eq 28, 3) := by decide +kernel
theorem dX10_five_7 : decode cX10_five 7 = .ok (.aload_n 0, 1) := by decide +kernel
theorem dX10_five_8 : decode cX10_five 8 = .ok (.getfield 45, 3) := by decide +kernel
theorem dX10_five_11 : decode cX10_five 11 = .ok (.getfield 128, 3) := by decide +kernel
theorem dX10_five_14 : decode cX10_five 14 = .ok (.ifCond .eq 18, 3) := by decide +kernel
theorem dX10_five_17 : decode cX10_five 17 = .ok (.iload_n 1, 1) := by decide +kernel
theorem dX10_five_18 : decode cX10_five 18 = .ok (.ifCond .lt 14, 3) := by decide +kernel
theorem dX10_five_21 : decode cX10_five 21 = .ok (.iload_n 1, 1) := by decide +kernel
theorem dX10_five_22 : decode cX10_five 22 = .ok (.aload_n 0, 1) := by decide +kernel
theorem dX10_five_23 : decode cX10_five 23 = .ok (.invokevirtual 162, 3) := by decide +kernel
theorem dX10_five_26 : decode cX10_five 26 = .ok (.getfield 227, 3) := by decide +kernel
theorem dX10_five_29 : decode cX10_five 29 = .ok (.if_icmp .lt 5, 3) := by decide +kernel
theorem dX10_five_32 : decode cX10_five 32 = .ok (.iconst (-1), 1) := by decide +kernel
theorem dX10_five_33 : decode cX10_five 33 = .ok (.ireturn, 1) := by decide +kernel
theorem dX10_five_34 : decode cX10_five 34 = .ok (.aload_n 0, 1) := by decide +kernel
theorem dX10_five_35 : decode cX10_five 35 = .ok (.getfield 64, 3) := by decide +kernel
theorem dX10_five_38 : decode cX10_five 38 = .ok (.aload_n 0, 1) := by decide +kernel
theorem dX10_five_39 : decode cX10_five 39 = .ok (.getfield 73, 3) := by decide +kernel
theorem dX10_five_42 : decode cX10_five 42 = .ok (.getfield 230, 3) := by decide +kernel
theorem dX10_five_45 : decode cX10_five 45 = .ok (.iload_n 1, 1) := by decide +kernel
theorem dX10_five_46 : decode cX10_five 46 = .ok (.iaload, 1) := by decide +kernel
theorem dX10_five_47 : decode cX10_five 47 = .ok (.invokevirtual 233, 3) := by decide +kernel
theorem dX10_five_50 : decode cX10_five 50 = .ok (.ireturn, 1) := by decide +kernel
theorem dX10_block_0 : decode cX10_block 0 = .ok (.aload_n 0, 1) := by decide +kernel
theorem dX10_block_1 : decode cX10_block 1 = .ok (.iload_n 1, 1) := by decide +kernel
theorem dX10_block_2 : decode cX10_block 2 = .ok (.invokevirtual 218, 3) := by decide +kernel
theorem dX10_block_5 : decode cX10_block 5 = .ok (.ifCond .ne 6, 3) := by decide +kernel
theorem dX10_block_8 : decode cX10_block 8 = .ok (.ldc 157, 2) := by decide +kernel
theorem dX10_block_10 : decode cX10_block 10 = .ok (.ireturn, 1) := by decide +kernel
theorem dX10_block_11 : decode cX10_block 11 = .ok (.aload_n 0, 1) := by decide +kernel
theorem dX10_block_12 : decode cX10_block 12 = .ok (.invokevirtual 162, 3) := by decide +kernel
theorem dX10_block_15 : decode cX10_block 15 = .ok (.astore_n 3, 1) := by decide +kernel
theorem dX10_block_16 : decode cX10_block 16 = .ok (.aload_n 3, 1) := by decide +kernel
theorem dX10_block_17 : decode cX10_block 17 = .ok (.iload_n 1, 1) := by decide +kernel
theorem dX10_block_18 : decode cX10_block 18 = .ok (.invokevirtual 236, 3) := by decide +kernel
theorem dX10_block_21 : decode cX10_block 21 = .ok (.iload_n 2, 1) := by decide +kernel
theorem dX10_block_22 : decode cX10_block 22 = .ok (.tableswitch 99 0 7 #[46, 52, 57, 69, 74, 80, 85, 91], 46) := by decide +kernel
theorem dX10_block_68 : decode cX10_block 68 = .ok (.aload_n 3, 1) := by decide +kernel
theorem dX10_block_69 : decode cX10_block 69 = .ok (.iload_n 1, 1) := by decide +kernel
theorem dX10_block_70 : decode cX10_block 70 = .ok (.invokevirtual 239, 3) := by decide +kernel
theorem dX10_block_73 : decode cX10_block 73 = .ok (.ireturn, 1) := by decide +kernel
theorem dX10_block_74 : decode cX10_block 74 = .ok (.aload_n 3, 1) := by decide +kernel
theorem dX10_block_75 : decode cX10_block 75 = .ok (.getfield 242, 3) := by decide +kernel
theorem dX10_block_78 : decode cX10_block 78 = .ok (.ireturn, 1) := by decide +kernel
theorem dX10_block_79 : decode cX10_block 79 = .ok (.aload_n 0, 1) := by decide +kernel
theorem dX10_block_80 : decode cX10_block 80 = .ok (.getfield 64, 3) := by decide +kernel
theorem dX10_block_83 : decode cX10_block 83 = .ok (.aload_n 3, 1) := by decide +kernel
theorem dX10_block_84 : decode cX10_block 84 = .ok (.getfield 245, 3) := by decide +kernel
theorem dX10_block_87 : decode cX10_block 87 = .ok (.invokevirtual 233, 3) := by decide +kernel
theorem dX10_block_90 : decode cX10_block 90 = .ok (.ireturn, 1) := by decide +kernel
theorem dX10_block_91 : decode cX10_block 91 = .ok (.aload_n 3, 1) := by decide +kernel
theorem dX10_block_92 : decode cX10_block 92 = .ok (.getfield 248, 3) := by decide +kernel
theorem dX10_block_95 : decode cX10_block 95 = .ok (.ireturn, 1) := by decide +kernel
theorem dX10_block_96 : decode cX10_block 96 = .ok (.aload_n 3, 1) := by decide +kernel
theorem dX10_block_97 : decode cX10_block 97 = .ok (.iload_n 1, 1) := by decide +kernel
theorem dX10_block_98 : decode cX10_block 98 = .ok (.invokevirtual 251, 3) := by decide +kernel
theorem dX10_block_101 : decode cX10_block 101 = .ok (.ireturn, 1) := by decide +kernel
theorem dX10_block_102 : decode cX10_block 102 = .ok (.aload_n 3, 1) := by decide +kernel
theorem dX10_block_103 : decode cX10_block 103 = .ok (.getfield 254, 3) := by decide +kernel
theorem dX10_block_106 : decode cX10_block 106 = .ok (.ireturn, 1) := by decide +kernel
theorem dX10_block_107 : decode cX10_block 107 = .ok (.aload_n 3, 1) := by decide +kernel
theorem dX10_block_108 : decode cX10_block 108 = .ok (.iload_n 1, 1) := by decide +kernel
theorem dX10_block_109 : decode cX10_block 109 = .ok (.invokevirtual 257, 3) := by decide +kernel
theorem dX10_block_112 : decode cX10_block 112 = .ok (.ireturn, 1) := by decide +kernel
theorem dX10_block_113 : decode cX10_block 113 = .ok (.aload_n 3, 1) := by decide +kernel
theorem dX10_block_114 : decode cX10_block 114 = .ok (.getfield 260, 3) := by decide +kernel
theorem dX10_block_117 : decode cX10_block 117 = .ok (.getfield 264, 3) := by decide +kernel
theorem dX10_block_120 : decode cX10_block 120 = .ok (.ireturn, 1) := by decide +kernel
theorem dX10_block_121 : decode cX10_block 121 = .ok (.ldc 157, 2) := by decide +kernel
theorem dX10_block_123 : decode cX10_block 123 = .ok (.ireturn, 1) := by decide +kernel
theorem dX10_whole_0 : decode cX10_whole 0 = .ok (.aload_n 0, 1) := by decide +kernel
theorem dX10_whole_1 : decode cX10_whole 1 = .ok (.iload_n 1, 1) := by decide +kernel
theorem dX10_whole_2 : decode cX10_whole 2 = .ok (.invokevirtual 218, 3) := by decide +kernel
theorem dX10_whole_5 : decode cX10_whole 5 = .ok (.ifCond .ne 7, 3) := by decide +kernel
theorem dX10_whole_8 : decode cX10_whole 8 = .ok (.ldc2_w 132, 3) := by decide +kernel
theorem dX10_whole_11 : decode cX10_whole 11 = .ok (.lreturn, 1) := by decide +kernel
theorem dX10_whole_12 : decode cX10_whole 12 = .ok (.aload_n 0, 1) := by decide +kernel
theorem dX10_whole_13 : decode cX10_whole 13 = .ok (.invokevirtual 162, 3) := by decide +kernel
theorem dX10_whole_16 : decode cX10_whole 16 = .ok (.astore_n 3, 1) := by decide +kernel
theorem dX10_whole_17 : decode cX10_whole 17 = .ok (.aload_n 3, 1) := by decide +kernel
theorem dX10_whole_18 : decode cX10_whole 18 = .ok (.iload_n 1, 1) := by decide +kernel
theorem dX10_whole_19 : decode cX10_whole 19 = .ok (.invokevirtual 236, 3) := by decide +kernel
theorem dX10_whole_22 : decode cX10_whole 22 = .ok (.aload_n 3, 1) := by decide +kernel
theorem dX10_whole_23 : decode cX10_whole 23 = .ok (.iload_n 1, 1) := by decide +kernel
theorem dX10_whole_24 : decode cX10_whole 24 = .ok (.aload_n 3, 1) := by decide +kernel
theorem dX10_whole_25 : decode cX10_whole 25 = .ok (.getfield 245, 3) := by decide +kernel
theorem dX10_whole_28 : decode cX10_whole 28 = .ok (.invokevirtual 269, 3) := by decide +kernel
theorem dX10_whole_31 : decode cX10_whole 31 = .ok (.iload_n 2, 1) := by decide +kernel
theorem dX10_whole_32 : decode cX10_whole 32 = .ok (.tableswitch 44 0 2 #[28, 33, 38], 28) := by decide +kernel
theorem dX10_whole_60 : decode cX10_whole 60 = .ok (.aload_n 3, 1) := by decide +kernel
theorem dX10_whole_61 : decode cX10_whole 61 = .ok (.getfield 273, 3) := by decide +kernel
theorem dX10_whole_64 : decode cX10_whole 64 = .ok (.lreturn, 1) := by decide +kernel
theorem dX10_whole_65 : decode cX10_whole 65 = .ok (.aload_n 3, 1) := by decide +kernel
theorem dX10_whole_66 : decode cX10_whole 66 = .ok (.getfield 277, 3) := by decide +kernel
theorem dX10_whole_69 : decode cX10_whole 69 = .ok (.lreturn, 1) := by decide +kernel
theorem dX10_whole_70 : decode cX10_whole 70 = .ok (.aload_n 3, 1) := by decide +kernel
theorem dX10_whole_71 : decode cX10_whole 71 = .ok (.iload_n 1, 1) := by decide +kernel
theorem dX10_whole_72 : decode cX10_whole 72 = .ok (.invokevirtual 280, 3) := by decide +kernel
theorem dX10_whole_75 : decode cX10_whole 75 = .ok (.lreturn, 1) := by decide +kernel
theorem dX10_whole_76 : decode cX10_whole 76 = .ok (.ldc2_w 132, 3) := by decide +kernel
theorem dX10_whole_79 : decode cX10_whole 79 = .ok (.lreturn, 1) := by decide +kernel
theorem dX10_part_0 : decode cX10_part 0 = .ok (.aload_n 0, 1) := by decide +kernel
theorem dX10_part_1 : decode cX10_part 1 = .ok (.iload_n 1, 1) := by decide +kernel
theorem dX10_part_2 : decode cX10_part 2 = .ok (.invokevirtual 218, 3) := by decide +kernel
theorem dX10_part_5 : decode cX10_part 5 = .ok (.ifCond .ne 5, 3) := by decide +kernel
theorem dX10_part_8 : decode cX10_part 8 = .ok (.iconst (-1), 1) := by decide +kernel
theorem dX10_part_9 : decode cX10_part 9 = .ok (.ireturn, 1) := by decide +kernel
theorem dX10_part_10 : decode cX10_part 10 = .ok (.aload_n 0, 1) := by decide +kernel
theorem dX10_part_11 : decode cX10_part 11 = .ok (.invokevirtual 162, 3) := by decide +kernel
theorem dX10_part_14 : decode cX10_part 14 = .ok (.astore_n 3, 1) := by decide +kernel
theorem dX10_part_15 : decode cX10_part 15 = .ok (.aload_n 3, 1) := by decide +kernel
theorem dX10_part_16 : decode cX10_part 16 = .ok (.iload_n 1, 1) := by decide +kernel
theorem dX10_part_17 : decode cX10_part 17 = .ok (.invokevirtual 284, 3) := by decide +kernel
theorem dX10_part_20 : decode cX10_part 20 = .ok (.iload_n 2, 1) := by decide +kernel
theorem dX10_part_21 : decode cX10_part 21 = .ok (.ifCond .lt 26, 3) := by decide +kernel
theorem dX10_part_24 : decode cX10_part 24 = .ok (.iload_n 2, 1) := by decide +kernel
theorem dX10_part_25 : decode cX10_part 25 = .ok (.aload_n 3, 1) := by decide +kernel
theorem dX10_part_26 : decode cX10_part 26 = .ok (.getfield 260, 3) := by decide +kernel
theorem dX10_part_29 : decode cX10_part 29 = .ok (.getfield 264, 3) := by decide +kernel
theorem dX10_part_32 : decode cX10_part 32 = .ok (.if_icmp .ge 15, 3) := by decide +kernel
theorem dX10_part_35 : decode cX10_part 35 = .ok (.aload_n 3, 1) := by decide +kernel
theorem dX10_part_36 : decode cX10_part 36 = .ok (.getfield 260, 3) := by decide +kernel
theorem dX10_part_39 : decode cX10_part 39 = .ok (.getfield 287, 3) := by decide +kernel
theorem dX10_part_42 : decode cX10_part 42 = .ok (.iload_n 2, 1) := by decide +kernel
theorem dX10_part_43 : decode cX10_part 43 = .ok (.iaload, 1) := by decide +kernel
theorem dX10_part_44 : decode cX10_part 44 = .ok (.goto 4, 3) := by decide +kernel
theorem dX10_part_47 : decode cX10_part 47 = .ok (.iconst (-1), 1) := by decide +kernel
theorem dX10_part_48 : decode cX10_part 48 = .ok (.ireturn, 1) := by decide +kernel
theorem dX10_write_0 : decode cX10_write 0 = .ok (.aload_n 0, 1) := by decide +kernel
theorem dX10_write_1 : decode cX10_write 1 = .ok (.iload_n 1, 1) := by decide +kernel
theorem dX10_write_2 : decode cX10_write 2 = .ok (.invokevirtual 218, 3) := by decide +kernel
theorem dX10_write_5 : decode cX10_write 5 = .ok (.ifCond .ne 5, 3) := by decide +kernel
theorem dX10_write_8 : decode cX10_write 8 = .ok (.iconst (-1), 1) := by decide +kernel
theorem dX10_write_9 : decode cX10_write 9 = .ok (.ireturn, 1) := by decide +kernel
theorem dX10_write_10 : decode cX10_write 10 = .ok (.aload_n 0, 1) := by decide +kernel
theorem dX10_write_11 : decode cX10_write 11 = .ok (.getfield 85, 3) := by decide +kernel
theorem dX10_write_14 : decode cX10_write 14 = .ok (.aload_n 0, 1) := by decide +kernel
theorem dX10_write_15 : decode cX10_write 15 = .ok (.invokevirtual 162, 3) := by decide +kernel
theorem dX10_write_18 : decode cX10_write 18 = .ok (.iload_n 1, 1) := by decide +kernel
theorem dX10_write_19 : decode cX10_write 19 = .ok (.invokevirtual 290, 3) := by decide +kernel
theorem dX10_write_22 : decode cX10_write 22 = .ok (.aload_n 0, 1) := by decide +kernel
theorem dX10_write_23 : decode cX10_write 23 = .ok (.getfield 23, 3) := by decide +kernel
theorem dX10_write_26 : decode cX10_write 26 = .ok (.getfield 97, 3) := by decide +kernel
theorem dX10_write_29 : decode cX10_write 29 = .ok (.ireturn, 1) := by decide +kernel
theorem dX10_octet_0 : decode cX10_octet 0 = .ok (.iload_n 1, 1) := by decide +kernel
theorem dX10_octet_1 : decode cX10_octet 1 = .ok (.ifCond .lt 14, 3) := by decide +kernel
theorem dX10_octet_4 : decode cX10_octet 4 = .ok (.iload_n 1, 1) := by decide +kernel
theorem dX10_octet_5 : decode cX10_octet 5 = .ok (.aload_n 0, 1) := by decide +kernel
theorem dX10_octet_6 : decode cX10_octet 6 = .ok (.getfield 23, 3) := by decide +kernel
theorem dX10_octet_9 : decode cX10_octet 9 = .ok (.getfield 97, 3) := by decide +kernel
theorem dX10_octet_12 : decode cX10_octet 12 = .ok (.if_icmp .lt 5, 3) := by decide +kernel
theorem dX10_octet_15 : decode cX10_octet 15 = .ok (.iconst (-1), 1) := by decide +kernel
theorem dX10_octet_16 : decode cX10_octet 16 = .ok (.ireturn, 1) := by decide +kernel
theorem dX10_octet_17 : decode cX10_octet 17 = .ok (.aload_n 0, 1) := by decide +kernel
theorem dX10_octet_18 : decode cX10_octet 18 = .ok (.getfield 23, 3) := by decide +kernel
theorem dX10_octet_21 : decode cX10_octet 21 = .ok (.getfield 294, 3) := by decide +kernel
theorem dX10_octet_24 : decode cX10_octet 24 = .ok (.iload_n 1, 1) := by decide +kernel
theorem dX10_octet_25 : decode cX10_octet 25 = .ok (.iaload, 1) := by decide +kernel
theorem dX10_octet_26 : decode cX10_octet 26 = .ok (.ireturn, 1) := by decide +kernel
theorem dX10_most_0 : decode cX10_most 0 = .ok (.aload_n 0, 1) := by decide +kernel
theorem dX10_most_1 : decode cX10_most 1 = .ok (.getfield 122, 3) := by decide +kernel
theorem dX10_most_4 : decode cX10_most 4 = .ok (.ifCond .eq 7, 3) := by decide +kernel
theorem dX10_most_7 : decode cX10_most 7 = .ok (.iload_n 1, 1) := by decide +kernel
theorem dX10_most_8 : decode cX10_most 8 = .ok (.ifCond .ge 6, 3) := by decide +kernel
theorem dX10_most_11 : decode cX10_most 11 = .ok (.ldc 157, 2) := by decide +kernel
theorem dX10_most_13 : decode cX10_most 13 = .ok (.ireturn, 1) := by decide +kernel
theorem dX10_most_14 : decode cX10_most 14 = .ok (.iload_n 1, 1) := by decide +kernel
theorem dX10_most_15 : decode cX10_most 15 = .ok (.tableswitch 147 0 10 #[57, 65, 73, 81, 90, 98, 106, 114, 123, 131, 139], 57) := by decide +kernel
theorem dX10_most_72 : decode cX10_most 72 = .ok (.aload_n 0, 1) := by decide +kernel
theorem dX10_most_73 : decode cX10_most 73 = .ok (.invokevirtual 162, 3) := by decide +kernel
theorem dX10_most_76 : decode cX10_most 76 = .ok (.invokevirtual 297, 3) := by decide +kernel
theorem dX10_most_79 : decode cX10_most 79 = .ok (.ireturn, 1) := by decide +kernel
theorem dX10_most_80 : decode cX10_most 80 = .ok (.aload_n 0, 1) := by decide +kernel
theorem dX10_most_81 : decode cX10_most 81 = .ok (.invokevirtual 162, 3) := by decide +kernel
theorem dX10_most_84 : decode cX10_most 84 = .ok (.invokevirtual 300, 3) := by decide +kernel
theorem dX10_most_87 : decode cX10_most 87 = .ok (.ireturn, 1) := by decide +kernel
theorem dX10_most_88 : decode cX10_most 88 = .ok (.aload_n 0, 1) := by decide +kernel
theorem dX10_most_89 : decode cX10_most 89 = .ok (.invokevirtual 162, 3) := by decide +kernel
theorem dX10_most_92 : decode cX10_most 92 = .ok (.invokevirtual 303, 3) := by decide +kernel
theorem dX10_most_95 : decode cX10_most 95 = .ok (.ireturn, 1) := by decide +kernel
theorem dX10_most_96 : decode cX10_most 96 = .ok (.aload_n 0, 1) := by decide +kernel
theorem dX10_most_97 : decode cX10_most 97 = .ok (.getfield 45, 3) := by decide +kernel
theorem dX10_most_100 : decode cX10_most 100 = .ok (.iconst 0, 1) := by decide +kernel
theorem dX10_most_101 : decode cX10_most 101 = .ok (.invokevirtual 306, 3) := by decide +kernel
theorem dX10_most_104 : decode cX10_most 104 = .ok (.ireturn, 1) := by decide +kernel
theorem dX10_most_105 : decode cX10_most 105 = .ok (.aload_n 0, 1) := by decide +kernel
theorem dX10_most_106 : decode cX10_most 106 = .ok (.getfield 45, 3) := by decide +kernel
theorem dX10_most_109 : decode cX10_most 109 = .ok (.invokevirtual 310, 3) := by decide +kernel
theorem dX10_most_112 : decode cX10_most 112 = .ok (.ireturn, 1) := by decide +kernel
theorem dX10_most_113 : decode cX10_most 113 = .ok (.aload_n 0, 1) := by decide +kernel
theorem dX10_most_114 : decode cX10_most 114 = .ok (.getfield 45, 3) := by decide +kernel
theorem dX10_most_117 : decode cX10_most 117 = .ok (.invokevirtual 313, 3) := by decide +kernel
theorem dX10_most_120 : decode cX10_most 120 = .ok (.ireturn, 1) := by decide +kernel
theorem dX10_most_121 : decode cX10_most 121 = .ok (.aload_n 0, 1) := by decide +kernel
theorem dX10_most_122 : decode cX10_most 122 = .ok (.getfield 45, 3) := by decide +kernel
theorem dX10_most_125 : decode cX10_most 125 = .ok (.invokevirtual 316, 3) := by decide +kernel
theorem dX10_most_128 : decode cX10_most 128 = .ok (.ireturn, 1) := by decide +kernel
theorem dX10_most_129 : decode cX10_most 129 = .ok (.aload_n 0, 1) := by decide +kernel
theorem dX10_most_130 : decode cX10_most 130 = .ok (.getfield 45, 3) := by decide +kernel
theorem dX10_most_133 : decode cX10_most 133 = .ok (.iconst 1, 1) := by decide +kernel
theorem dX10_most_134 : decode cX10_most 134 = .ok (.invokevirtual 306, 3) := by decide +kernel
theorem dX10_most_137 : decode cX10_most 137 = .ok (.ireturn, 1) := by decide +kernel
theorem dX10_most_138 : decode cX10_most 138 = .ok (.aload_n 0, 1) := by decide +kernel
theorem dX10_most_139 : decode cX10_most 139 = .ok (.getfield 45, 3) := by decide +kernel
theorem dX10_most_142 : decode cX10_most 142 = .ok (.invokevirtual 319, 3) := by decide +kernel
theorem dX10_most_145 : decode cX10_most 145 = .ok (.ireturn, 1) := by decide +kernel
theorem dX10_most_146 : decode cX10_most 146 = .ok (.aload_n 0, 1) := by decide +kernel
theorem dX10_most_147 : decode cX10_most 147 = .ok (.invokevirtual 162, 3) := by decide +kernel
theorem dX10_most_150 : decode cX10_most 150 = .ok (.invokevirtual 322, 3) := by decide +kernel
theorem dX10_most_153 : decode cX10_most 153 = .ok (.ireturn, 1) := by decide +kernel
theorem dX10_most_154 : decode cX10_most 154 = .ok (.aload_n 0, 1) := by decide +kernel
theorem dX10_most_155 : decode cX10_most 155 = .ok (.invokevirtual 162, 3) := by decide +kernel
theorem dX10_most_158 : decode cX10_most 158 = .ok (.invokevirtual 325, 3) := by decide +kernel
theorem dX10_most_161 : decode cX10_most 161 = .ok (.ireturn, 1) := by decide +kernel
theorem dX10_most_162 : decode cX10_most 162 = .ok (.iload_n 1, 1) := by decide +kernel
theorem dX10_most_163 : decode cX10_most 163 = .ok (.bipush 13, 2) := by decide +kernel
theorem dX10_most_165 : decode cX10_most 165 = .ok (.if_icmp .gt 17, 3) := by decide +kernel
theorem dX10_most_168 : decode cX10_most 168 = .ok (.aload_n 0, 1) := by decide +kernel
theorem dX10_most_169 : decode cX10_most 169 = .ok (.invokevirtual 162, 3) := by decide +kernel
theorem dX10_most_172 : decode cX10_most 172 = .ok (.iload_n 1, 1) := by decide +kernel
theorem dX10_most_173 : decode cX10_most 173 = .ok (.bipush 11, 2) := by decide +kernel
theorem dX10_most_175 : decode cX10_most 175 = .ok (.isub, 1) := by decide +kernel
theorem dX10_most_176 : decode cX10_most 176 = .ok (.invokevirtual 328, 3) := by decide +kernel
theorem dX10_most_179 : decode cX10_most 179 = .ok (.goto 5, 3) := by decide +kernel
theorem dX10_most_182 : decode cX10_most 182 = .ok (.ldc 157, 2) := by decide +kernel
theorem dX10_most_184 : decode cX10_most 184 = .ok (.ireturn, 1) := by decide +kernel
theorem dX10_saved_0 : decode cX10_saved 0 = .ok (.aload_n 0, 1) := by decide +kernel
theorem dX10_saved_1 : decode cX10_saved 1 = .ok (.getfield 122, 3) := by decide +kernel
theorem dX10_saved_4 : decode cX10_saved 4 = .ok (.ifCond .eq 18, 3) := by decide +kernel
theorem dX10_saved_7 : decode cX10_saved 7 = .ok (.iload_n 1, 1) := by decide +kernel
theorem dX10_saved_8 : decode cX10_saved 8 = .ok (.invokestatic 137, 3) := by decide +kernel
theorem dX10_saved_11 : decode cX10_saved 11 = .ok (.ifCond .eq 11, 3) := by decide +kernel
theorem dX10_saved_14 : decode cX10_saved 14 = .ok (.iload_n 1, 1) := by decide +kernel
theorem dX10_saved_15 : decode cX10_saved 15 = .ok (.iload_n 2, 1) := by decide +kernel
theorem dX10_saved_16 : decode cX10_saved 16 = .ok (.invokestatic 331, 3) := by decide +kernel
theorem dX10_saved_19 : decode cX10_saved 19 = .ok (.ifCond .ne 6, 3) := by decide +kernel
theorem dX10_saved_22 : decode cX10_saved 22 = .ok (.ldc 157, 2) := by decide +kernel
theorem dX10_saved_24 : decode cX10_saved 24 = .ok (.ireturn, 1) := by decide +kernel
theorem dX10_saved_25 : decode cX10_saved 25 = .ok (.aload_n 0, 1) := by decide +kernel
theorem dX10_saved_26 : decode cX10_saved 26 = .ok (.invokevirtual 162, 3) := by decide +kernel
theorem dX10_saved_29 : decode cX10_saved 29 = .ok (.invokevirtual 300, 3) := by decide +kernel
theorem dX10_saved_32 : decode cX10_saved 32 = .ok (.istore_n 3, 1) := by decide +kernel
theorem dX10_saved_33 : decode cX10_saved 33 = .ok (.aload_n 0, 1) := by decide +kernel
theorem dX10_saved_34 : decode cX10_saved 34 = .ok (.iload_n 1, 1) := by decide +kernel
theorem dX10_saved_35 : decode cX10_saved 35 = .ok (.iload_n 2, 1) := by decide +kernel
theorem dX10_saved_36 : decode cX10_saved 36 = .ok (.invokevirtual 334, 3) := by decide +kernel
theorem dX10_saved_39 : decode cX10_saved 39 = .ok (.iload_n 3, 1) := by decide +kernel
theorem dX10_saved_40 : decode cX10_saved 40 = .ok (.aload_n 0, 1) := by decide +kernel
theorem dX10_saved_41 : decode cX10_saved 41 = .ok (.getfield 77, 3) := by decide +kernel
theorem dX10_saved_44 : decode cX10_saved 44 = .ok (.invokevirtual 300, 3) := by decide +kernel
theorem dX10_saved_47 : decode cX10_saved 47 = .ok (.isub, 1) := by decide +kernel
theorem dX10_saved_48 : decode cX10_saved 48 = .ok (.ireturn, 1) := by decide +kernel
theorem dX10_less_0 : decode cX10_less 0 = .ok (.aload_n 0, 1) := by decide +kernel
theorem dX10_less_1 : decode cX10_less 1 = .ok (.iload_n 1, 1) := by decide +kernel
theorem dX10_less_2 : decode cX10_less 2 = .ok (.invokevirtual 144, 3) := by decide +kernel
theorem dX10_less_5 : decode cX10_less 5 = .ok (.ifCond .ne 6, 3) := by decide +kernel
theorem dX10_less_8 : decode cX10_less 8 = .ok (.ldc 157, 2) := by decide +kernel
theorem dX10_less_10 : decode cX10_less 10 = .ok (.ireturn, 1) := by decide +kernel
theorem dX10_less_11 : decode cX10_less 11 = .ok (.aload_n 0, 1) := by decide +kernel
theorem dX10_less_12 : decode cX10_less 12 = .ok (.invokevirtual 162, 3) := by decide +kernel
theorem dX10_less_15 : decode cX10_less 15 = .ok (.invokevirtual 300, 3) := by decide +kernel
theorem dX10_less_18 : decode cX10_less 18 = .ok (.istore_n 2, 1) := by decide +kernel
theorem dX10_less_19 : decode cX10_less 19 = .ok (.aload_n 0, 1) := by decide +kernel
theorem dX10_less_20 : decode cX10_less 20 = .ok (.getfield 77, 3) := by decide +kernel
theorem dX10_less_23 : decode cX10_less 23 = .ok (.invokevirtual 337, 3) := by decide +kernel
theorem dX10_less_26 : decode cX10_less 26 = .ok (.aload_n 0, 1) := by decide +kernel
theorem dX10_less_27 : decode cX10_less 27 = .ok (.getfield 77, 3) := by decide +kernel
theorem dX10_less_30 : decode cX10_less 30 = .ok (.iload_n 1, 1) := by decide +kernel
theorem dX10_less_31 : decode cX10_less 31 = .ok (.invokevirtual 340, 3) := by decide +kernel
theorem dX10_less_34 : decode cX10_less 34 = .ok (.aload_n 0, 1) := by decide +kernel
theorem dX10_less_35 : decode cX10_less 35 = .ok (.getfield 77, 3) := by decide +kernel
theorem dX10_less_38 : decode cX10_less 38 = .ok (.invokevirtual 343, 3) := by decide +kernel
theorem dX10_less_41 : decode cX10_less 41 = .ok (.iload_n 2, 1) := by decide +kernel
theorem dX10_less_42 : decode cX10_less 42 = .ok (.aload_n 0, 1) := by decide +kernel
theorem dX10_less_43 : decode cX10_less 43 = .ok (.getfield 77, 3) := by decide +kernel
theorem dX10_less_46 : decode cX10_less 46 = .ok (.invokevirtual 300, 3) := by decide +kernel
theorem dX10_less_49 : decode cX10_less 49 = .ok (.isub, 1) := by decide +kernel
theorem dX10_less_50 : decode cX10_less 50 = .ok (.ireturn, 1) := by decide +kernel
theorem dX10_best_0 : decode cX10_best 0 = .ok (.aload_n 0, 1) := by decide +kernel
theorem dX10_best_1 : decode cX10_best 1 = .ok (.getfield 122, 3) := by decide +kernel
theorem dX10_best_4 : decode cX10_best 4 = .ok (.ifCond .eq 10, 3) := by decide +kernel
theorem dX10_best_7 : decode cX10_best 7 = .ok (.iload_n 1, 1) := by decide +kernel
theorem dX10_best_8 : decode cX10_best 8 = .ok (.invokestatic 137, 3) := by decide +kernel
theorem dX10_best_11 : decode cX10_best 11 = .ok (.ifCond .ne 5, 3) := by decide +kernel
theorem dX10_best_14 : decode cX10_best 14 = .ok (.iconst (-1), 1) := by decide +kernel
theorem dX10_best_15 : decode cX10_best 15 = .ok (.ireturn, 1) := by decide +kernel
theorem dX10_best_16 : decode cX10_best 16 = .ok (.aload_n 0, 1) := by decide +kernel
theorem dX10_best_17 : decode cX10_best 17 = .ok (.invokevirtual 162, 3) := by decide +kernel
theorem dX10_best_20 : decode cX10_best 20 = .ok (.pop, 1) := by decide +kernel
theorem dX10_best_21 : decode cX10_best 21 = .ok (.getstatic 346, 3) := by decide +kernel
theorem dX10_best_24 : decode cX10_best 24 = .ok (.iload_n 1, 1) := by decide +kernel
theorem dX10_best_25 : decode cX10_best 25 = .ok (.iaload, 1) := by decide +kernel
theorem dX10_best_26 : decode cX10_best 26 = .ok (.istore_n 2, 1) := by decide +kernel
theorem dX10_best_27 : decode cX10_best 27 = .ok (.iconst 0, 1) := by decide +kernel
theorem dX10_best_28 : decode cX10_best 28 = .ok (.istore_n 3, 1) := by decide +kernel
theorem dX10_best_29 : decode cX10_best 29 = .ok (.getstatic 346, 3) := by decide +kernel
theorem dX10_best_32 : decode cX10_best 32 = .ok (.iload_n 1, 1) := by decide +kernel
theorem dX10_best_33 : decode cX10_best 33 = .ok (.iaload, 1) := by decide +kernel
theorem dX10_best_34 : decode cX10_best 34 = .ok (.istore 4, 2) := by decide +kernel
theorem dX10_best_36 : decode cX10_best 36 = .ok (.iload 4, 2) := by decide +kernel
theorem dX10_best_38 : decode cX10_best 38 = .ok (.getstatic 349, 3) := by decide +kernel
theorem dX10_best_41 : decode cX10_best 41 = .ok (.iload_n 1, 1) := by decide +kernel
theorem dX10_best_42 : decode cX10_best 42 = .ok (.iaload, 1) := by decide +kernel
theorem dX10_best_43 : decode cX10_best 43 = .ok (.if_icmp .gt 47, 3) := by decide +kernel
theorem dX10_best_46 : decode cX10_best 46 = .ok (.aload_n 0, 1) := by decide +kernel
theorem dX10_best_47 : decode cX10_best 47 = .ok (.iload_n 1, 1) := by decide +kernel
theorem dX10_best_48 : decode cX10_best 48 = .ok (.iload 4, 2) := by decide +kernel
theorem dX10_best_50 : decode cX10_best 50 = .ok (.invokevirtual 334, 3) := by decide +kernel
theorem dX10_best_53 : decode cX10_best 53 = .ok (.aload_n 0, 1) := by decide +kernel
theorem dX10_best_54 : decode cX10_best 54 = .ok (.getfield 77, 3) := by decide +kernel
theorem dX10_best_57 : decode cX10_best 57 = .ok (.invokevirtual 300, 3) := by decide +kernel
theorem dX10_best_60 : decode cX10_best 60 = .ok (.istore 5, 2) := by decide +kernel
theorem dX10_best_62 : decode cX10_best 62 = .ok (.iload 4, 2) := by decide +kernel
theorem dX10_best_64 : decode cX10_best 64 = .ok (.getstatic 346, 3) := by decide +kernel
theorem dX10_best_67 : decode cX10_best 67 = .ok (.iload_n 1, 1) := by decide +kernel
theorem dX10_best_68 : decode cX10_best 68 = .ok (.iaload, 1) := by decide +kernel
theorem dX10_best_69 : decode cX10_best 69 = .ok (.if_icmp .eq 9, 3) := by decide +kernel
theorem dX10_best_72 : decode cX10_best 72 = .ok (.iload 5, 2) := by decide +kernel
theorem dX10_best_74 : decode cX10_best 74 = .ok (.iload_n 3, 1) := by decide +kernel
theorem dX10_best_75 : decode cX10_best 75 = .ok (.if_icmp .ge 9, 3) := by decide +kernel
theorem dX10_best_78 : decode cX10_best 78 = .ok (.iload 5, 2) := by decide +kernel
theorem dX10_best_80 : decode cX10_best 80 = .ok (.istore_n 3, 1) := by decide +kernel
theorem dX10_best_81 : decode cX10_best 81 = .ok (.iload 4, 2) := by decide +kernel
theorem dX10_best_83 : decode cX10_best 83 = .ok (.istore_n 2, 1) := by decide +kernel
theorem dX10_best_84 : decode cX10_best 84 = .ok (.iinc 4 1, 3) := by decide +kernel
theorem dX10_best_87 : decode cX10_best 87 = .ok (.goto (-51), 3) := by decide +kernel
theorem dX10_best_90 : decode cX10_best 90 = .ok (.iload_n 2, 1) := by decide +kernel
theorem dX10_best_91 : decode cX10_best 91 = .ok (.ireturn, 1) := by decide +kernel
theorem dX10_alone_0 : decode cX10_alone 0 = .ok (.aload_n 0, 1) := by decide +kernel
theorem dX10_alone_1 : decode cX10_alone 1 = .ok (.getfield 122, 3) := by decide +kernel
theorem dX10_alone_4 : decode cX10_alone 4 = .ok (.ifCond .eq 22, 3) := by decide +kernel
theorem dX10_alone_7 : decode cX10_alone 7 = .ok (.aload_n 0, 1) := by decide +kernel
theorem dX10_alone_8 : decode cX10_alone 8 = .ok (.getfield 45, 3) := by decide +kernel
theorem dX10_alone_11 : decode cX10_alone 11 = .ok (.getfield 128, 3) := by decide +kernel
theorem dX10_alone_14 : decode cX10_alone 14 = .ok (.ifCond .eq 12, 3) := by decide +kernel
theorem dX10_alone_17 : decode cX10_alone 17 = .ok (.iload_n 1, 1) := by decide +kernel
theorem dX10_alone_18 : decode cX10_alone 18 = .ok (.ifCond .lt 8, 3) := by decide +kernel
theorem dX10_alone_21 : decode cX10_alone 21 = .ok (.iload_n 1, 1) := by decide +kernel
theorem dX10_alone_22 : decode cX10_alone 22 = .ok (.iconst 1, 1) := by decide +kernel
theorem dX10_alone_23 : decode cX10_alone 23 = .ok (.if_icmp .le 5, 3) := by decide +kernel
theorem dX10_alone_26 : decode cX10_alone 26 = .ok (.iconst (-1), 1) := by decide +kernel
theorem dX10_alone_27 : decode cX10_alone 27 = .ok (.ireturn, 1) := by decide +kernel
theorem dX10_alone_28 : decode cX10_alone 28 = .ok (.aload_n 0, 1) := by decide +kernel
theorem dX10_alone_29 : decode cX10_alone 29 = .ok (.invokevirtual 162, 3) := by decide +kernel
theorem dX10_alone_32 : decode cX10_alone 32 = .ok (.astore_n 2, 1) := by decide +kernel
theorem dX10_alone_33 : decode cX10_alone 33 = .ok (.iconst 0, 1) := by decide +kernel
theorem dX10_alone_34 : decode cX10_alone 34 = .ok (.istore_n 3, 1) := by decide +kernel
theorem dX10_alone_35 : decode cX10_alone 35 = .ok (.aload_n 2, 1) := by decide +kernel
theorem dX10_alone_36 : decode cX10_alone 36 = .ok (.iconst 0, 1) := by decide +kernel
theorem dX10_alone_37 : decode cX10_alone 37 = .ok (.invokevirtual 352, 3) := by decide +kernel
theorem dX10_alone_40 : decode cX10_alone 40 = .ok (.istore 4, 2) := by decide +kernel
theorem dX10_alone_42 : decode cX10_alone 42 = .ok (.iconst 1, 1) := by decide +kernel
theorem dX10_alone_43 : decode cX10_alone 43 = .ok (.istore 5, 2) := by decide +kernel
theorem dX10_alone_45 : decode cX10_alone 45 = .ok (.iload 5, 2) := by decide +kernel
theorem dX10_alone_47 : decode cX10_alone 47 = .ok (.aload_n 2, 1) := by decide +kernel
theorem dX10_alone_48 : decode cX10_alone 48 = .ok (.invokevirtual 166, 3) := by decide +kernel
theorem dX10_alone_51 : decode cX10_alone 51 = .ok (.if_icmp .ge 31, 3) := by decide +kernel
theorem dX10_alone_54 : decode cX10_alone 54 = .ok (.aload_n 2, 1) := by decide +kernel
theorem dX10_alone_55 : decode cX10_alone 55 = .ok (.iload 5, 2) := by decide +kernel
theorem dX10_alone_57 : decode cX10_alone 57 = .ok (.invokevirtual 352, 3) := by decide +kernel
theorem dX10_alone_60 : decode cX10_alone 60 = .ok (.istore 6, 2) := by decide +kernel
theorem dX10_alone_62 : decode cX10_alone 62 = .ok (.iload 6, 2) := by decide +kernel
theorem dX10_alone_64 : decode cX10_alone 64 = .ok (.iload 4, 2) := by decide +kernel
theorem dX10_alone_66 : decode cX10_alone 66 = .ok (.if_icmp .ge 10, 3) := by decide +kernel
theorem dX10_alone_69 : decode cX10_alone 69 = .ok (.iload 6, 2) := by decide +kernel
theorem dX10_alone_71 : decode cX10_alone 71 = .ok (.istore 4, 2) := by decide +kernel
theorem dX10_alone_73 : decode cX10_alone 73 = .ok (.iload 5, 2) := by decide +kernel
theorem dX10_alone_75 : decode cX10_alone 75 = .ok (.istore_n 3, 1) := by decide +kernel
theorem dX10_alone_76 : decode cX10_alone 76 = .ok (.iinc 5 1, 3) := by decide +kernel
theorem dX10_alone_79 : decode cX10_alone 79 = .ok (.goto (-34), 3) := by decide +kernel
theorem dX10_alone_82 : decode cX10_alone 82 = .ok (.iload_n 1, 1) := by decide +kernel
theorem dX10_alone_83 : decode cX10_alone 83 = .ok (.ifCond .ne 14, 3) := by decide +kernel
theorem dX10_alone_86 : decode cX10_alone 86 = .ok (.aload_n 0, 1) := by decide +kernel
theorem dX10_alone_87 : decode cX10_alone 87 = .ok (.getfield 64, 3) := by decide +kernel
theorem dX10_alone_90 : decode cX10_alone 90 = .ok (.iload_n 3, 1) := by decide +kernel
theorem dX10_alone_91 : decode cX10_alone 91 = .ok (.invokevirtual 233, 3) := by decide +kernel
theorem dX10_alone_94 : decode cX10_alone 94 = .ok (.goto 5, 3) := by decide +kernel
theorem dX10_alone_97 : decode cX10_alone 97 = .ok (.iload 4, 2) := by decide +kernel
theorem dX10_alone_99 : decode cX10_alone 99 = .ok (.ireturn, 1) := by decide +kernel
theorem dX10_add_0 : decode cX10_add 0 = .ok (.aload_n 0, 1) := by decide +kernel
theorem dX10_add_1 : decode cX10_add 1 = .ok (.getfield 122, 3) := by decide +kernel
theorem dX10_add_4 : decode cX10_add 4 = .ok (.ifCond .ne 9, 3) := by decide +kernel
theorem dX10_add_7 : decode cX10_add 7 = .ok (.aload_n 0, 1) := by decide +kernel
theorem dX10_add_8 : decode cX10_add 8 = .ok (.iconst 0, 1) := by decide +kernel
theorem dX10_add_9 : decode cX10_add 9 = .ok (.invokevirtual 355, 3) := by decide +kernel
theorem dX10_add_12 : decode cX10_add 12 = .ok (.ireturn, 1) := by decide +kernel
theorem dX10_add_13 : decode cX10_add 13 = .ok (.aload_n 0, 1) := by decide +kernel
theorem dX10_add_14 : decode cX10_add 14 = .ok (.getfield 45, 3) := by decide +kernel
theorem dX10_add_17 : decode cX10_add 17 = .ok (.getfield 128, 3) := by decide +kernel
theorem dX10_add_20 : decode cX10_add 20 = .ok (.bipush 64, 2) := by decide +kernel
theorem dX10_add_22 : decode cX10_add 22 = .ok (.if_icmp .lt 9, 3) := by decide +kernel
theorem dX10_add_25 : decode cX10_add 25 = .ok (.aload_n 0, 1) := by decide +kernel
theorem dX10_add_26 : decode cX10_add 26 = .ok (.iconst 3, 1) := by decide +kernel
theorem dX10_add_27 : decode cX10_add 27 = .ok (.invokevirtual 355, 3) := by decide +kernel
theorem dX10_add_30 : decode cX10_add 30 = .ok (.ireturn, 1) := by decide +kernel
theorem dX10_add_31 : decode cX10_add 31 = .ok (.aload_n 0, 1) := by decide +kernel
theorem dX10_add_32 : decode cX10_add 32 = .ok (.getfield 55, 3) := by decide +kernel
theorem dX10_add_35 : decode cX10_add 35 = .ok (.aload_n 0, 1) := by decide +kernel
theorem dX10_add_36 : decode cX10_add 36 = .ok (.getfield 45, 3) := by decide +kernel
theorem dX10_add_39 : decode cX10_add 39 = .ok (.invokevirtual 358, 3) := by decide +kernel
theorem dX10_add_42 : decode cX10_add 42 = .ok (.aload_n 0, 1) := by decide +kernel
theorem dX10_add_43 : decode cX10_add 43 = .ok (.getfield 45, 3) := by decide +kernel
theorem dX10_add_46 : decode cX10_add 46 = .ok (.getfield 128, 3) := by decide +kernel
theorem dX10_add_49 : decode cX10_add 49 = .ok (.istore_n 3, 1) := by decide +kernel
theorem dX10_add_50 : decode cX10_add 50 = .ok (.aload_n 0, 1) := by decide +kernel
theorem dX10_add_51 : decode cX10_add 51 = .ok (.getfield 45, 3) := by decide +kernel
theorem dX10_add_54 : decode cX10_add 54 = .ok (.lload_n 1, 1) := by decide +kernel
theorem dX10_add_55 : decode cX10_add 55 = .ok (.invokevirtual 361, 3) := by decide +kernel
theorem dX10_add_58 : decode cX10_add 58 = .ok (.aload_n 0, 1) := by decide +kernel
theorem dX10_add_59 : decode cX10_add 59 = .ok (.iconst 0, 1) := by decide +kernel
theorem dX10_add_60 : decode cX10_add 60 = .ok (.iload_n 3, 1) := by decide +kernel
theorem dX10_add_61 : decode cX10_add 61 = .ok (.iload_n 3, 1) := by decide +kernel
theorem dX10_add_62 : decode cX10_add 62 = .ok (.invokevirtual 365, 3) := by decide +kernel
theorem dX10_add_65 : decode cX10_add 65 = .ok (.ireturn, 1) := by decide +kernel
theorem dX10_put_0 : decode cX10_put 0 = .ok (.aload_n 0, 1) := by decide +kernel
theorem dX10_put_1 : decode cX10_put 1 = .ok (.iload_n 1, 1) := by decide +kernel
theorem dX10_put_2 : decode cX10_put 2 = .ok (.invokevirtual 144, 3) := by decide +kernel
theorem dX10_put_5 : decode cX10_put 5 = .ok (.ifCond .ne 9, 3) := by decide +kernel
theorem dX10_put_8 : decode cX10_put 8 = .ok (.aload_n 0, 1) := by decide +kernel
theorem dX10_put_9 : decode cX10_put 9 = .ok (.iconst 0, 1) := by decide +kernel
theorem dX10_put_10 : decode cX10_put 10 = .ok (.invokevirtual 355, 3) := by decide +kernel
theorem dX10_put_13 : decode cX10_put 13 = .ok (.ireturn, 1) := by decide +kernel
theorem dX10_put_14 : decode cX10_put 14 = .ok (.aload_n 0, 1) := by decide +kernel
theorem dX10_put_15 : decode cX10_put 15 = .ok (.getfield 45, 3) := by decide +kernel
theorem dX10_put_18 : decode cX10_put 18 = .ok (.getfield 154, 3) := by decide +kernel
theorem dX10_put_21 : decode cX10_put 21 = .ok (.iload_n 1, 1) := by decide +kernel
theorem dX10_put_22 : decode cX10_put 22 = .ok (.laload, 1) := by decide +kernel
theorem dX10_put_23 : decode cX10_put 23 = .ok (.lload_n 2, 1) := by decide +kernel
theorem dX10_put_24 : decode cX10_put 24 = .ok (.lcmp, 1) := by decide +kernel
theorem dX10_put_25 : decode cX10_put 25 = .ok (.ifCond .ne 9, 3) := by decide +kernel
theorem dX10_put_28 : decode cX10_put 28 = .ok (.aload_n 0, 1) := by decide +kernel
theorem dX10_put_29 : decode cX10_put 29 = .ok (.iconst 2, 1) := by decide +kernel
theorem dX10_put_30 : decode cX10_put 30 = .ok (.invokevirtual 355, 3) := by decide +kernel
theorem dX10_put_33 : decode cX10_put 33 = .ok (.ireturn, 1) := by decide +kernel
theorem dX10_put_34 : decode cX10_put 34 = .ok (.aload_n 0, 1) := by decide +kernel
theorem dX10_put_35 : decode cX10_put 35 = .ok (.getfield 55, 3) := by decide +kernel
theorem dX10_put_38 : decode cX10_put 38 = .ok (.aload_n 0, 1) := by decide +kernel
theorem dX10_put_39 : decode cX10_put 39 = .ok (.getfield 45, 3) := by decide +kernel
theorem dX10_put_42 : decode cX10_put 42 = .ok (.invokevirtual 358, 3) := by decide +kernel
theorem dX10_put_45 : decode cX10_put 45 = .ok (.aload_n 0, 1) := by decide +kernel
theorem dX10_put_46 : decode cX10_put 46 = .ok (.getfield 45, 3) := by decide +kernel
theorem dX10_put_49 : decode cX10_put 49 = .ok (.getfield 154, 3) := by decide +kernel
theorem dX10_put_52 : decode cX10_put 52 = .ok (.iload_n 1, 1) := by decide +kernel
theorem dX10_put_53 : decode cX10_put 53 = .ok (.lload_n 2, 1) := by decide +kernel
theorem dX10_put_54 : decode cX10_put 54 = .ok (.lastore, 1) := by decide +kernel
theorem dX10_put_55 : decode cX10_put 55 = .ok (.aload_n 0, 1) := by decide +kernel
theorem dX10_put_56 : decode cX10_put 56 = .ok (.iconst 1, 1) := by decide +kernel
theorem dX10_put_57 : decode cX10_put 57 = .ok (.iload_n 1, 1) := by decide +kernel
theorem dX10_put_58 : decode cX10_put 58 = .ok (.iload_n 1, 1) := by decide +kernel
theorem dX10_put_59 : decode cX10_put 59 = .ok (.invokevirtual 365, 3) := by decide +kernel
theorem dX10_put_62 : decode cX10_put 62 = .ok (.ireturn, 1) := by decide +kernel
theorem dX10_drop_0 : decode cX10_drop 0 = .ok (.aload_n 0, 1) := by decide +kernel
theorem dX10_drop_1 : decode cX10_drop 1 = .ok (.getfield 122, 3) := by decide +kernel
theorem dX10_drop_4 : decode cX10_drop 4 = .ok (.ifCond .eq 13, 3) := by decide +kernel
theorem dX10_drop_7 : decode cX10_drop 7 = .ok (.aload_n 0, 1) := by decide +kernel
theorem dX10_drop_8 : decode cX10_drop 8 = .ok (.getfield 45, 3) := by decide +kernel
theorem dX10_drop_11 : decode cX10_drop 11 = .ok (.getfield 128, 3) := by decide +kernel
theorem dX10_drop_14 : decode cX10_drop 14 = .ok (.ifCond .ne 9, 3) := by decide +kernel
theorem dX10_drop_17 : decode cX10_drop 17 = .ok (.aload_n 0, 1) := by decide +kernel
theorem dX10_drop_18 : decode cX10_drop 18 = .ok (.iconst 0, 1) := by decide +kernel
theorem dX10_drop_19 : decode cX10_drop 19 = .ok (.invokevirtual 355, 3) := by decide +kernel
theorem dX10_drop_22 : decode cX10_drop 22 = .ok (.ireturn, 1) := by decide +kernel
theorem dX10_drop_23 : decode cX10_drop 23 = .ok (.aload_n 0, 1) := by decide +kernel
theorem dX10_drop_24 : decode cX10_drop 24 = .ok (.getfield 55, 3) := by decide +kernel
theorem dX10_drop_27 : decode cX10_drop 27 = .ok (.aload_n 0, 1) := by decide +kernel
theorem dX10_drop_28 : decode cX10_drop 28 = .ok (.getfield 45, 3) := by decide +kernel
theorem dX10_drop_31 : decode cX10_drop 31 = .ok (.invokevirtual 358, 3) := by decide +kernel
theorem dX10_drop_34 : decode cX10_drop 34 = .ok (.aload_n 0, 1) := by decide +kernel
theorem dX10_drop_35 : decode cX10_drop 35 = .ok (.getfield 45, 3) := by decide +kernel
theorem dX10_drop_38 : decode cX10_drop 38 = .ok (.dup, 1) := by decide +kernel
theorem dX10_drop_39 : decode cX10_drop 39 = .ok (.getfield 128, 3) := by decide +kernel
theorem dX10_drop_42 : decode cX10_drop 42 = .ok (.iconst 1, 1) := by decide +kernel
theorem dX10_drop_43 : decode cX10_drop 43 = .ok (.isub, 1) := by decide +kernel
theorem dX10_drop_44 : decode cX10_drop 44 = .ok (.putfield 128, 3) := by decide +kernel
theorem dX10_drop_47 : decode cX10_drop 47 = .ok (.aload_n 0, 1) := by decide +kernel
theorem dX10_drop_48 : decode cX10_drop 48 = .ok (.iconst 2, 1) := by decide +kernel
theorem dX10_drop_49 : decode cX10_drop 49 = .ok (.aload_n 0, 1) := by decide +kernel
theorem dX10_drop_50 : decode cX10_drop 50 = .ok (.getfield 45, 3) := by decide +kernel
theorem dX10_drop_53 : decode cX10_drop 53 = .ok (.getfield 128, 3) := by decide +kernel
theorem dX10_drop_56 : decode cX10_drop 56 = .ok (.aload_n 0, 1) := by decide +kernel
theorem dX10_drop_57 : decode cX10_drop 57 = .ok (.getfield 45, 3) := by decide +kernel
theorem dX10_drop_60 : decode cX10_drop 60 = .ok (.getfield 128, 3) := by decide +kernel
theorem dX10_drop_63 : decode cX10_drop 63 = .ok (.invokevirtual 365, 3) := by decide +kernel
theorem dX10_drop_66 : decode cX10_drop 66 = .ok (.ireturn, 1) := by decide +kernel
theorem dX10_swap_0 : decode cX10_swap 0 = .ok (.aload_n 0, 1) := by decide +kernel
theorem dX10_swap_1 : decode cX10_swap 1 = .ok (.iload_n 1, 1) := by decide +kernel
theorem dX10_swap_2 : decode cX10_swap 2 = .ok (.invokevirtual 144, 3) := by decide +kernel
theorem dX10_swap_5 : decode cX10_swap 5 = .ok (.ifCond .eq 11, 3) := by decide +kernel
theorem dX10_swap_8 : decode cX10_swap 8 = .ok (.aload_n 0, 1) := by decide +kernel
theorem dX10_swap_9 : decode cX10_swap 9 = .ok (.iload_n 2, 1) := by decide +kernel
theorem dX10_swap_10 : decode cX10_swap 10 = .ok (.invokevirtual 144, 3) := by decide +kernel
theorem dX10_swap_13 : decode cX10_swap 13 = .ok (.ifCond .ne 9, 3) := by decide +kernel
theorem dX10_swap_16 : decode cX10_swap 16 = .ok (.aload_n 0, 1) := by decide +kernel
theorem dX10_swap_17 : decode cX10_swap 17 = .ok (.iconst 0, 1) := by decide +kernel
theorem dX10_swap_18 : decode cX10_swap 18 = .ok (.invokevirtual 355, 3) := by decide +kernel
theorem dX10_swap_21 : decode cX10_swap 21 = .ok (.ireturn, 1) := by decide +kernel
theorem dX10_swap_22 : decode cX10_swap 22 = .ok (.aload_n 0, 1) := by decide +kernel
theorem dX10_swap_23 : decode cX10_swap 23 = .ok (.getfield 45, 3) := by decide +kernel
theorem dX10_swap_26 : decode cX10_swap 26 = .ok (.getfield 154, 3) := by decide +kernel
theorem dX10_swap_29 : decode cX10_swap 29 = .ok (.iload_n 1, 1) := by decide +kernel
theorem dX10_swap_30 : decode cX10_swap 30 = .ok (.laload, 1) := by decide +kernel
theorem dX10_swap_31 : decode cX10_swap 31 = .ok (.aload_n 0, 1) := by decide +kernel
theorem dX10_swap_32 : decode cX10_swap 32 = .ok (.getfield 45, 3) := by decide +kernel
theorem dX10_swap_35 : decode cX10_swap 35 = .ok (.getfield 154, 3) := by decide +kernel
theorem dX10_swap_38 : decode cX10_swap 38 = .ok (.iload_n 2, 1) := by decide +kernel
theorem dX10_swap_39 : decode cX10_swap 39 = .ok (.laload, 1) := by decide +kernel
theorem dX10_swap_40 : decode cX10_swap 40 = .ok (.lcmp, 1) := by decide +kernel
theorem dX10_swap_41 : decode cX10_swap 41 = .ok (.ifCond .ne 9, 3) := by decide +kernel
theorem dX10_swap_44 : decode cX10_swap 44 = .ok (.aload_n 0, 1) := by decide +kernel
theorem dX10_swap_45 : decode cX10_swap 45 = .ok (.iconst 2, 1) := by decide +kernel
theorem dX10_swap_46 : decode cX10_swap 46 = .ok (.invokevirtual 355, 3) := by decide +kernel
theorem dX10_swap_49 : decode cX10_swap 49 = .ok (.ireturn, 1) := by decide +kernel
theorem dX10_swap_50 : decode cX10_swap 50 = .ok (.aload_n 0, 1) := by decide +kernel
theorem dX10_swap_51 : decode cX10_swap 51 = .ok (.getfield 55, 3) := by decide +kernel
theorem dX10_swap_54 : decode cX10_swap 54 = .ok (.aload_n 0, 1) := by decide +kernel
theorem dX10_swap_55 : decode cX10_swap 55 = .ok (.getfield 45, 3) := by decide +kernel
theorem dX10_swap_58 : decode cX10_swap 58 = .ok (.invokevirtual 358, 3) := by decide +kernel
theorem dX10_swap_61 : decode cX10_swap 61 = .ok (.aload_n 0, 1) := by decide +kernel
theorem dX10_swap_62 : decode cX10_swap 62 = .ok (.getfield 45, 3) := by decide +kernel
theorem dX10_swap_65 : decode cX10_swap 65 = .ok (.getfield 154, 3) := by decide +kernel
theorem dX10_swap_68 : decode cX10_swap 68 = .ok (.iload_n 1, 1) := by decide +kernel
theorem dX10_swap_69 : decode cX10_swap 69 = .ok (.laload, 1) := by decide +kernel
theorem dX10_swap_70 : decode cX10_swap 70 = .ok (.lstore_n 3, 1) := by decide +kernel
theorem dX10_swap_71 : decode cX10_swap 71 = .ok (.aload_n 0, 1) := by decide +kernel
theorem dX10_swap_72 : decode cX10_swap 72 = .ok (.getfield 45, 3) := by decide +kernel
theorem dX10_swap_75 : decode cX10_swap 75 = .ok (.getfield 154, 3) := by decide +kernel
theorem dX10_swap_78 : decode cX10_swap 78 = .ok (.iload_n 1, 1) := by decide +kernel
theorem dX10_swap_79 : decode cX10_swap 79 = .ok (.aload_n 0, 1) := by decide +kernel
theorem dX10_swap_80 : decode cX10_swap 80 = .ok (.getfield 45, 3) := by decide +kernel
theorem dX10_swap_83 : decode cX10_swap 83 = .ok (.getfield 154, 3) := by decide +kernel
theorem dX10_swap_86 : decode cX10_swap 86 = .ok (.iload_n 2, 1) := by decide +kernel
theorem dX10_swap_87 : decode cX10_swap 87 = .ok (.laload, 1) := by decide +kernel
theorem dX10_swap_88 : decode cX10_swap 88 = .ok (.lastore, 1) := by decide +kernel
theorem dX10_swap_89 : decode cX10_swap 89 = .ok (.aload_n 0, 1) := by decide +kernel
theorem dX10_swap_90 : decode cX10_swap 90 = .ok (.getfield 45, 3) := by decide +kernel
theorem dX10_swap_93 : decode cX10_swap 93 = .ok (.getfield 154, 3) := by decide +kernel
theorem dX10_swap_96 : decode cX10_swap 96 = .ok (.iload_n 2, 1) := by decide +kernel
theorem dX10_swap_97 : decode cX10_swap 97 = .ok (.lload_n 3, 1) := by decide +kernel
theorem dX10_swap_98 : decode cX10_swap 98 = .ok (.lastore, 1) := by decide +kernel
theorem dX10_swap_99 : decode cX10_swap 99 = .ok (.aload_n 0, 1) := by decide +kernel
theorem dX10_swap_100 : decode cX10_swap 100 = .ok (.iconst 3, 1) := by decide +kernel
theorem dX10_swap_101 : decode cX10_swap 101 = .ok (.iload_n 1, 1) := by decide +kernel
theorem dX10_swap_102 : decode cX10_swap 102 = .ok (.iload_n 1, 1) := by decide +kernel
theorem dX10_swap_103 : decode cX10_swap 103 = .ok (.invokevirtual 365, 3) := by decide +kernel
theorem dX10_swap_106 : decode cX10_swap 106 = .ok (.ireturn, 1) := by decide +kernel
theorem dX10_set_0 : decode cX10_set 0 = .ok (.aload_n 0, 1) := by decide +kernel
theorem dX10_set_1 : decode cX10_set 1 = .ok (.getfield 122, 3) := by decide +kernel
theorem dX10_set_4 : decode cX10_set 4 = .ok (.ifCond .eq 10, 3) := by decide +kernel
theorem dX10_set_7 : decode cX10_set 7 = .ok (.iload_n 1, 1) := by decide +kernel
theorem dX10_set_8 : decode cX10_set 8 = .ok (.invokestatic 137, 3) := by decide +kernel
theorem dX10_set_11 : decode cX10_set 11 = .ok (.ifCond .ne 9, 3) := by decide +kernel
theorem dX10_set_14 : decode cX10_set 14 = .ok (.aload_n 0, 1) := by decide +kernel
theorem dX10_set_15 : decode cX10_set 15 = .ok (.iconst 0, 1) := by decide +kernel
theorem dX10_set_16 : decode cX10_set 16 = .ok (.invokevirtual 355, 3) := by decide +kernel
theorem dX10_set_19 : decode cX10_set 19 = .ok (.ireturn, 1) := by decide +kernel
theorem dX10_set_20 : decode cX10_set 20 = .ok (.iload_n 1, 1) := by decide +kernel
theorem dX10_set_21 : decode cX10_set 21 = .ok (.iload_n 2, 1) := by decide +kernel
theorem dX10_set_22 : decode cX10_set 22 = .ok (.invokestatic 331, 3) := by decide +kernel
theorem dX10_set_25 : decode cX10_set 25 = .ok (.ifCond .ne 9, 3) := by decide +kernel
theorem dX10_set_28 : decode cX10_set 28 = .ok (.aload_n 0, 1) := by decide +kernel
theorem dX10_set_29 : decode cX10_set 29 = .ok (.iconst 1, 1) := by decide +kernel
theorem dX10_set_30 : decode cX10_set 30 = .ok (.invokevirtual 355, 3) := by decide +kernel
theorem dX10_set_33 : decode cX10_set 33 = .ok (.ireturn, 1) := by decide +kernel
theorem dX10_set_34 : decode cX10_set 34 = .ok (.aload_n 0, 1) := by decide +kernel
theorem dX10_set_35 : decode cX10_set 35 = .ok (.getfield 45, 3) := by decide +kernel
theorem dX10_set_38 : decode cX10_set 38 = .ok (.getfield 141, 3) := by decide +kernel
theorem dX10_set_41 : decode cX10_set 41 = .ok (.iload_n 1, 1) := by decide +kernel
theorem dX10_set_42 : decode cX10_set 42 = .ok (.iaload, 1) := by decide +kernel
theorem dX10_set_43 : decode cX10_set 43 = .ok (.istore_n 3, 1) := by decide +kernel
theorem dX10_set_44 : decode cX10_set 44 = .ok (.iload_n 3, 1) := by decide +kernel
theorem dX10_set_45 : decode cX10_set 45 = .ok (.iload_n 2, 1) := by decide +kernel
theorem dX10_set_46 : decode cX10_set 46 = .ok (.if_icmp .ne 9, 3) := by decide +kernel
theorem dX10_set_49 : decode cX10_set 49 = .ok (.aload_n 0, 1) := by decide +kernel
theorem dX10_set_50 : decode cX10_set 50 = .ok (.iconst 2, 1) := by decide +kernel
theorem dX10_set_51 : decode cX10_set 51 = .ok (.invokevirtual 355, 3) := by decide +kernel
theorem dX10_set_54 : decode cX10_set 54 = .ok (.ireturn, 1) := by decide +kernel
theorem dX10_set_55 : decode cX10_set 55 = .ok (.aload_n 0, 1) := by decide +kernel
theorem dX10_set_56 : decode cX10_set 56 = .ok (.getfield 55, 3) := by decide +kernel
theorem dX10_set_59 : decode cX10_set 59 = .ok (.aload_n 0, 1) := by decide +kernel
theorem dX10_set_60 : decode cX10_set 60 = .ok (.getfield 45, 3) := by decide +kernel
theorem dX10_set_63 : decode cX10_set 63 = .ok (.invokevirtual 358, 3) := by decide +kernel
theorem dX10_set_66 : decode cX10_set 66 = .ok (.aload_n 0, 1) := by decide +kernel
theorem dX10_set_67 : decode cX10_set 67 = .ok (.getfield 45, 3) := by decide +kernel
theorem dX10_set_70 : decode cX10_set 70 = .ok (.getfield 141, 3) := by decide +kernel
theorem dX10_set_73 : decode cX10_set 73 = .ok (.iload_n 1, 1) := by decide +kernel
theorem dX10_set_74 : decode cX10_set 74 = .ok (.iload_n 2, 1) := by decide +kernel
theorem dX10_set_75 : decode cX10_set 75 = .ok (.iastore, 1) := by decide +kernel
theorem dX10_set_76 : decode cX10_set 76 = .ok (.aload_n 0, 1) := by decide +kernel
theorem dX10_set_77 : decode cX10_set 77 = .ok (.iconst 4, 1) := by decide +kernel
theorem dX10_set_78 : decode cX10_set 78 = .ok (.iload_n 1, 1) := by decide +kernel
theorem dX10_set_79 : decode cX10_set 79 = .ok (.iload_n 3, 1) := by decide +kernel
theorem dX10_set_80 : decode cX10_set 80 = .ok (.invokevirtual 365, 3) := by decide +kernel
theorem dX10_set_83 : decode cX10_set 83 = .ok (.ireturn, 1) := by decide +kernel
theorem dX10_take_0 : decode cX10_take 0 = .ok (.aload_n 0, 1) := by decide +kernel
theorem dX10_take_1 : decode cX10_take 1 = .ok (.getfield 122, 3) := by decide +kernel
theorem dX10_take_4 : decode cX10_take 4 = .ok (.ifCond .ne 9, 3) := by decide +kernel
theorem dX10_take_7 : decode cX10_take 7 = .ok (.aload_n 0, 1) := by decide +kernel
theorem dX10_take_8 : decode cX10_take 8 = .ok (.iconst 0, 1) := by decide +kernel
theorem dX10_take_9 : decode cX10_take 9 = .ok (.invokevirtual 355, 3) := by decide +kernel
theorem dX10_take_12 : decode cX10_take 12 = .ok (.ireturn, 1) := by decide +kernel
theorem dX10_take_13 : decode cX10_take 13 = .ok (.aload_n 0, 1) := by decide +kernel
theorem dX10_take_14 : decode cX10_take 14 = .ok (.getfield 38, 3) := by decide +kernel
theorem dX10_take_17 : decode cX10_take 17 = .ok (.invokevirtual 109, 3) := by decide +kernel
theorem dX10_take_20 : decode cX10_take 20 = .ok (.iconst (-1), 1) := by decide +kernel
theorem dX10_take_21 : decode cX10_take 21 = .ok (.if_icmp .eq 9, 3) := by decide +kernel
theorem dX10_take_24 : decode cX10_take 24 = .ok (.aload_n 0, 1) := by decide +kernel
theorem dX10_take_25 : decode cX10_take 25 = .ok (.iconst 4, 1) := by decide +kernel
theorem dX10_take_26 : decode cX10_take 26 = .ok (.invokevirtual 355, 3) := by decide +kernel
theorem dX10_take_29 : decode cX10_take 29 = .ok (.ireturn, 1) := by decide +kernel
theorem dX10_take_30 : decode cX10_take 30 = .ok (.aload_n 0, 1) := by decide +kernel
theorem dX10_take_31 : decode cX10_take 31 = .ok (.getfield 38, 3) := by decide +kernel
theorem dX10_take_34 : decode cX10_take 34 = .ok (.getfield 131, 3) := by decide +kernel
theorem dX10_take_37 : decode cX10_take 37 = .ok (.istore_n 1, 1) := by decide +kernel
theorem dX10_take_38 : decode cX10_take 38 = .ok (.aload_n 0, 1) := by decide +kernel
theorem dX10_take_39 : decode cX10_take 39 = .ok (.getfield 45, 3) := by decide +kernel
theorem dX10_take_42 : decode cX10_take 42 = .ok (.getfield 128, 3) := by decide +kernel
theorem dX10_take_45 : decode cX10_take 45 = .ok (.iload_n 1, 1) := by decide +kernel
theorem dX10_take_46 : decode cX10_take 46 = .ok (.iadd, 1) := by decide +kernel
theorem dX10_take_47 : decode cX10_take 47 = .ok (.bipush 64, 2) := by decide +kernel
theorem dX10_take_49 : decode cX10_take 49 = .ok (.if_icmp .le 9, 3) := by decide +kernel
theorem dX10_take_52 : decode cX10_take 52 = .ok (.aload_n 0, 1) := by decide +kernel
theorem dX10_take_53 : decode cX10_take 53 = .ok (.iconst 3, 1) := by decide +kernel
theorem dX10_take_54 : decode cX10_take 54 = .ok (.invokevirtual 355, 3) := by decide +kernel
theorem dX10_take_57 : decode cX10_take 57 = .ok (.ireturn, 1) := by decide +kernel
theorem dX10_take_58 : decode cX10_take 58 = .ok (.aload_n 0, 1) := by decide +kernel
theorem dX10_take_59 : decode cX10_take 59 = .ok (.getfield 55, 3) := by decide +kernel
theorem dX10_take_62 : decode cX10_take 62 = .ok (.aload_n 0, 1) := by decide +kernel
theorem dX10_take_63 : decode cX10_take 63 = .ok (.getfield 45, 3) := by decide +kernel
theorem dX10_take_66 : decode cX10_take 66 = .ok (.invokevirtual 358, 3) := by decide +kernel
theorem dX10_take_69 : decode cX10_take 69 = .ok (.iconst 0, 1) := by decide +kernel
theorem dX10_take_70 : decode cX10_take 70 = .ok (.istore_n 2, 1) := by decide +kernel
theorem dX10_take_71 : decode cX10_take 71 = .ok (.iload_n 2, 1) := by decide +kernel
theorem dX10_take_72 : decode cX10_take 72 = .ok (.iload_n 1, 1) := by decide +kernel
theorem dX10_take_73 : decode cX10_take 73 = .ok (.if_icmp .ge 25, 3) := by decide +kernel
theorem dX10_take_76 : decode cX10_take 76 = .ok (.aload_n 0, 1) := by decide +kernel
theorem dX10_take_77 : decode cX10_take 77 = .ok (.getfield 45, 3) := by decide +kernel
theorem dX10_take_80 : decode cX10_take 80 = .ok (.aload_n 0, 1) := by decide +kernel
theorem dX10_take_81 : decode cX10_take 81 = .ok (.getfield 38, 3) := by decide +kernel
theorem dX10_take_84 : decode cX10_take 84 = .ok (.getfield 134, 3) := by decide +kernel
theorem dX10_take_87 : decode cX10_take 87 = .ok (.iload_n 2, 1) := by decide +kernel
theorem dX10_take_88 : decode cX10_take 88 = .ok (.laload, 1) := by decide +kernel
theorem dX10_take_89 : decode cX10_take 89 = .ok (.invokevirtual 361, 3) := by decide +kernel
theorem dX10_take_92 : decode cX10_take 92 = .ok (.iinc 2 1, 3) := by decide +kernel
theorem dX10_take_95 : decode cX10_take 95 = .ok (.goto (-24), 3) := by decide +kernel
theorem dX10_take_98 : decode cX10_take 98 = .ok (.aload_n 0, 1) := by decide +kernel
theorem dX10_take_99 : decode cX10_take 99 = .ok (.getfield 19, 3) := by decide +kernel
theorem dX10_take_102 : decode cX10_take 102 = .ok (.iconst 0, 1) := by decide +kernel
theorem dX10_take_103 : decode cX10_take 103 = .ok (.putfield 97, 3) := by decide +kernel
theorem dX10_take_106 : decode cX10_take 106 = .ok (.aload_n 0, 1) := by decide +kernel
theorem dX10_take_107 : decode cX10_take 107 = .ok (.iconst 5, 1) := by decide +kernel
theorem dX10_take_108 : decode cX10_take 108 = .ok (.iload_n 1, 1) := by decide +kernel
theorem dX10_take_109 : decode cX10_take 109 = .ok (.iload_n 1, 1) := by decide +kernel
theorem dX10_take_110 : decode cX10_take 110 = .ok (.invokevirtual 365, 3) := by decide +kernel
theorem dX10_take_113 : decode cX10_take 113 = .ok (.ireturn, 1) := by decide +kernel
theorem dX10_status_0 : decode cX10_status 0 = .ok (.iload_n 1, 1) := by decide +kernel
theorem dX10_status_1 : decode cX10_status 1 = .ok (.ifCond .lt 17, 3) := by decide +kernel
theorem dX10_status_4 : decode cX10_status 4 = .ok (.iload_n 1, 1) := by decide +kernel
theorem dX10_status_5 : decode cX10_status 5 = .ok (.iconst 5, 1) := by decide +kernel
theorem dX10_status_6 : decode cX10_status 6 = .ok (.if_icmp .ge 12, 3) := by decide +kernel
theorem dX10_status_9 : decode cX10_status 9 = .ok (.aload_n 0, 1) := by decide +kernel
theorem dX10_status_10 : decode cX10_status 10 = .ok (.getfield 89, 3) := by decide +kernel
theorem dX10_status_13 : decode cX10_status 13 = .ok (.iload_n 1, 1) := by decide +kernel
theorem dX10_status_14 : decode cX10_status 14 = .ok (.iaload, 1) := by decide +kernel
theorem dX10_status_15 : decode cX10_status 15 = .ok (.goto 4, 3) := by decide +kernel
theorem dX10_status_18 : decode cX10_status 18 = .ok (.iconst (-1), 1) := by decide +kernel
theorem dX10_status_19 : decode cX10_status 19 = .ok (.ireturn, 1) := by decide +kernel
theorem dX10_undo_0 : decode cX10_undo 0 = .ok (.aload_n 0, 1) := by decide +kernel
theorem dX10_undo_1 : decode cX10_undo 1 = .ok (.getfield 55, 3) := by decide +kernel
theorem dX10_undo_4 : decode cX10_undo 4 = .ok (.getfield 115, 3) := by decide +kernel
theorem dX10_undo_7 : decode cX10_undo 7 = .ok (.ifCond .ne 5, 3) := by decide +kernel
theorem dX10_undo_10 : decode cX10_undo 10 = .ok (.iconst (-1), 1) := by decide +kernel
theorem dX10_undo_11 : decode cX10_undo 11 = .ok (.ireturn, 1) := by decide +kernel
theorem dX10_undo_12 : decode cX10_undo 12 = .ok (.aload_n 0, 1) := by decide +kernel
theorem dX10_undo_13 : decode cX10_undo 13 = .ok (.getfield 55, 3) := by decide +kernel
theorem dX10_undo_16 : decode cX10_undo 16 = .ok (.aload_n 0, 1) := by decide +kernel
theorem dX10_undo_17 : decode cX10_undo 17 = .ok (.getfield 45, 3) := by decide +kernel
theorem dX10_undo_20 : decode cX10_undo 20 = .ok (.invokevirtual 369, 3) := by decide +kernel
theorem dX10_undo_23 : decode cX10_undo 23 = .ok (.aload_n 0, 1) := by decide +kernel
theorem dX10_undo_24 : decode cX10_undo 24 = .ok (.iconst 1, 1) := by decide +kernel
theorem dX10_undo_25 : decode cX10_undo 25 = .ok (.putfield 125, 3) := by decide +kernel
theorem dX10_undo_28 : decode cX10_undo 28 = .ok (.aload_n 0, 1) := by decide +kernel
theorem dX10_undo_29 : decode cX10_undo 29 = .ok (.getfield 55, 3) := by decide +kernel
theorem dX10_undo_32 : decode cX10_undo 32 = .ok (.getfield 115, 3) := by decide +kernel
theorem dX10_undo_35 : decode cX10_undo 35 = .ok (.ireturn, 1) := by decide +kernel
theorem dX10_log_0 : decode cX10_log 0 = .ok (.iload_n 1, 1) := by decide +kernel
theorem dX10_log_1 : decode cX10_log 1 = .ok (.ifCond .lt 23, 3) := by decide +kernel
theorem dX10_log_4 : decode cX10_log 4 = .ok (.iload_n 1, 1) := by decide +kernel
theorem dX10_log_5 : decode cX10_log 5 = .ok (.aload_n 0, 1) := by decide +kernel
theorem dX10_log_6 : decode cX10_log 6 = .ok (.getfield 45, 3) := by decide +kernel
theorem dX10_log_9 : decode cX10_log 9 = .ok (.getfield 372, 3) := by decide +kernel
theorem dX10_log_12 : decode cX10_log 12 = .ok (.if_icmp .ge 12, 3) := by decide +kernel
theorem dX10_log_15 : decode cX10_log 15 = .ok (.iload_n 2, 1) := by decide +kernel
theorem dX10_log_16 : decode cX10_log 16 = .ok (.ifCond .lt 8, 3) := by decide +kernel
theorem dX10_log_19 : decode cX10_log 19 = .ok (.iload_n 2, 1) := by decide +kernel
theorem dX10_log_20 : decode cX10_log 20 = .ok (.iconst 2, 1) := by decide +kernel
theorem dX10_log_21 : decode cX10_log 21 = .ok (.if_icmp .le 6, 3) := by decide +kernel
theorem dX10_log_24 : decode cX10_log 24 = .ok (.ldc 157, 2) := by decide +kernel
theorem dX10_log_26 : decode cX10_log 26 = .ok (.ireturn, 1) := by decide +kernel
theorem dX10_log_27 : decode cX10_log 27 = .ok (.aload_n 0, 1) := by decide +kernel
theorem dX10_log_28 : decode cX10_log 28 = .ok (.getfield 45, 3) := by decide +kernel
theorem dX10_log_31 : decode cX10_log 31 = .ok (.iload_n 1, 1) := by decide +kernel
theorem dX10_log_32 : decode cX10_log 32 = .ok (.iload_n 2, 1) := by decide +kernel
theorem dX10_log_33 : decode cX10_log 33 = .ok (.invokevirtual 375, 3) := by decide +kernel
theorem dX10_log_36 : decode cX10_log 36 = .ok (.ireturn, 1) := by decide +kernel
theorem dX10_image_0 : decode cX10_image 0 = .ok (.aload_n 0, 1) := by decide +kernel
theorem dX10_image_1 : decode cX10_image 1 = .ok (.getfield 122, 3) := by decide +kernel
theorem dX10_image_4 : decode cX10_image 4 = .ok (.ifCond .ne 5, 3) := by decide +kernel
theorem dX10_image_7 : decode cX10_image 7 = .ok (.iconst (-1), 1) := by decide +kernel
theorem dX10_image_8 : decode cX10_image 8 = .ok (.ireturn, 1) := by decide +kernel
theorem dX10_image_9 : decode cX10_image 9 = .ok (.aload_n 0, 1) := by decide +kernel
theorem dX10_image_10 : decode cX10_image 10 = .ok (.getfield 49, 3) := by decide +kernel
theorem dX10_image_13 : decode cX10_image 13 = .ok (.aload_n 0, 1) := by decide +kernel
theorem dX10_image_14 : decode cX10_image 14 = .ok (.getfield 45, 3) := by decide +kernel
theorem dX10_image_17 : decode cX10_image 17 = .ok (.invokevirtual 111, 3) := by decide +kernel
theorem dX10_image_20 : decode cX10_image 20 = .ok (.aload_n 0, 1) := by decide +kernel
theorem dX10_image_21 : decode cX10_image 21 = .ok (.iconst 1, 1) := by decide +kernel
theorem dX10_image_22 : decode cX10_image 22 = .ok (.putfield 118, 3) := by decide +kernel
theorem dX10_image_25 : decode cX10_image 25 = .ok (.aload_n 0, 1) := by decide +kernel
theorem dX10_image_26 : decode cX10_image 26 = .ok (.getfield 49, 3) := by decide +kernel
theorem dX10_image_29 : decode cX10_image 29 = .ok (.getfield 128, 3) := by decide +kernel
theorem dX10_image_32 : decode cX10_image 32 = .ok (.ireturn, 1) := by decide +kernel
theorem dX10_back_0 : decode cX10_back 0 = .ok (.aload_n 0, 1) := by decide +kernel
theorem dX10_back_1 : decode cX10_back 1 = .ok (.getfield 118, 3) := by decide +kernel
theorem dX10_back_4 : decode cX10_back 4 = .ok (.ifCond .ne 5, 3) := by decide +kernel
theorem dX10_back_7 : decode cX10_back 7 = .ok (.iconst (-1), 1) := by decide +kernel
theorem dX10_back_8 : decode cX10_back 8 = .ok (.ireturn, 1) := by decide +kernel
theorem dX10_back_9 : decode cX10_back 9 = .ok (.aload_n 0, 1) := by decide +kernel
theorem dX10_back_10 : decode cX10_back 10 = .ok (.getfield 45, 3) := by decide +kernel
theorem dX10_back_13 : decode cX10_back 13 = .ok (.aload_n 0, 1) := by decide +kernel
theorem dX10_back_14 : decode cX10_back 14 = .ok (.getfield 49, 3) := by decide +kernel
theorem dX10_back_17 : decode cX10_back 17 = .ok (.invokevirtual 111, 3) := by decide +kernel
theorem dX10_back_20 : decode cX10_back 20 = .ok (.aload_n 0, 1) := by decide +kernel
theorem dX10_back_21 : decode cX10_back 21 = .ok (.getfield 55, 3) := by decide +kernel
theorem dX10_back_24 : decode cX10_back 24 = .ok (.iconst 0, 1) := by decide +kernel
theorem dX10_back_25 : decode cX10_back 25 = .ok (.putfield 115, 3) := by decide +kernel
theorem dX10_back_28 : decode cX10_back 28 = .ok (.aload_n 0, 1) := by decide +kernel
theorem dX10_back_29 : decode cX10_back 29 = .ok (.iconst 1, 1) := by decide +kernel
theorem dX10_back_30 : decode cX10_back 30 = .ok (.putfield 125, 3) := by decide +kernel
theorem dX10_back_33 : decode cX10_back 33 = .ok (.aload_n 0, 1) := by decide +kernel
theorem dX10_back_34 : decode cX10_back 34 = .ok (.getfield 45, 3) := by decide +kernel
theorem dX10_back_37 : decode cX10_back 37 = .ok (.getfield 128, 3) := by decide +kernel
theorem dX10_back_40 : decode cX10_back 40 = .ok (.ireturn, 1) := by decide +kernel
theorem dX10_count_0 : decode cX10_count 0 = .ok (.iload_n 1, 1) := by decide +kernel
theorem dX10_count_1 : decode cX10_count 1 = .ok (.tableswitch 75 0 4 #[35, 43, 51, 59, 67], 35) := by decide +kernel
theorem dX10_count_36 : decode cX10_count 36 = .ok (.aload_n 0, 1) := by decide +kernel
theorem dX10_count_37 : decode cX10_count 37 = .ok (.getfield 45, 3) := by decide +kernel
theorem dX10_count_40 : decode cX10_count 40 = .ok (.getfield 128, 3) := by decide +kernel
theorem dX10_count_43 : decode cX10_count 43 = .ok (.ireturn, 1) := by decide +kernel
theorem dX10_count_44 : decode cX10_count 44 = .ok (.aload_n 0, 1) := by decide +kernel
theorem dX10_count_45 : decode cX10_count 45 = .ok (.getfield 19, 3) := by decide +kernel
theorem dX10_count_48 : decode cX10_count 48 = .ok (.getfield 97, 3) := by decide +kernel
theorem dX10_count_51 : decode cX10_count 51 = .ok (.ireturn, 1) := by decide +kernel
theorem dX10_count_52 : decode cX10_count 52 = .ok (.aload_n 0, 1) := by decide +kernel
theorem dX10_count_53 : decode cX10_count 53 = .ok (.getfield 23, 3) := by decide +kernel
theorem dX10_count_56 : decode cX10_count 56 = .ok (.getfield 97, 3) := by decide +kernel
theorem dX10_count_59 : decode cX10_count 59 = .ok (.ireturn, 1) := by decide +kernel
theorem dX10_count_60 : decode cX10_count 60 = .ok (.aload_n 0, 1) := by decide +kernel
theorem dX10_count_61 : decode cX10_count 61 = .ok (.getfield 45, 3) := by decide +kernel
theorem dX10_count_64 : decode cX10_count 64 = .ok (.getfield 372, 3) := by decide +kernel
theorem dX10_count_67 : decode cX10_count 67 = .ok (.ireturn, 1) := by decide +kernel
theorem dX10_count_68 : decode cX10_count 68 = .ok (.aload_n 0, 1) := by decide +kernel
theorem dX10_count_69 : decode cX10_count 69 = .ok (.getfield 55, 3) := by decide +kernel
theorem dX10_count_72 : decode cX10_count 72 = .ok (.getfield 115, 3) := by decide +kernel
theorem dX10_count_75 : decode cX10_count 75 = .ok (.ireturn, 1) := by decide +kernel
theorem dX10_count_76 : decode cX10_count 76 = .ok (.ldc 157, 2) := by decide +kernel
theorem dX10_count_78 : decode cX10_count 78 = .ok (.ireturn, 1) := by decide +kernel
theorem dX10_refuse_0 : decode cX10_refuse 0 = .ok (.aload_n 0, 1) := by decide +kernel
theorem dX10_refuse_1 : decode cX10_refuse 1 = .ok (.getfield 89, 3) := by decide +kernel
theorem dX10_refuse_4 : decode cX10_refuse 4 = .ok (.iload_n 1, 1) := by decide +kernel
theorem dX10_refuse_5 : decode cX10_refuse 5 = .ok (.dup2, 1) := by decide +kernel
theorem dX10_refuse_6 : decode cX10_refuse 6 = .ok (.iaload, 1) := by decide +kernel
theorem dX10_refuse_7 : decode cX10_refuse 7 = .ok (.iconst 1, 1) := by decide +kernel
theorem dX10_refuse_8 : decode cX10_refuse 8 = .ok (.iadd, 1) := by decide +kernel
theorem dX10_refuse_9 : decode cX10_refuse 9 = .ok (.iastore, 1) := by decide +kernel
theorem dX10_refuse_10 : decode cX10_refuse 10 = .ok (.iconst (-1), 1) := by decide +kernel
theorem dX10_refuse_11 : decode cX10_refuse 11 = .ok (.ireturn, 1) := by decide +kernel
theorem dX10_done_0 : decode cX10_done 0 = .ok (.aload_n 0, 1) := by decide +kernel
theorem dX10_done_1 : decode cX10_done 1 = .ok (.getfield 45, 3) := by decide +kernel
theorem dX10_done_4 : decode cX10_done 4 = .ok (.iload_n 1, 1) := by decide +kernel
theorem dX10_done_5 : decode cX10_done 5 = .ok (.iload_n 2, 1) := by decide +kernel
theorem dX10_done_6 : decode cX10_done 6 = .ok (.invokevirtual 378, 3) := by decide +kernel
theorem dX10_done_9 : decode cX10_done 9 = .ok (.aload_n 0, 1) := by decide +kernel
theorem dX10_done_10 : decode cX10_done 10 = .ok (.iconst 1, 1) := by decide +kernel
theorem dX10_done_11 : decode cX10_done 11 = .ok (.putfield 125, 3) := by decide +kernel
theorem dX10_done_14 : decode cX10_done 14 = .ok (.iload_n 3, 1) := by decide +kernel
theorem dX10_done_15 : decode cX10_done 15 = .ok (.ireturn, 1) := by decide +kernel
theorem dX10_hasPlace_0 : decode cX10_hasPlace 0 = .ok (.aload_n 0, 1) := by decide +kernel
theorem dX10_hasPlace_1 : decode cX10_hasPlace 1 = .ok (.getfield 122, 3) := by decide +kernel
theorem dX10_hasPlace_4 : decode cX10_hasPlace 4 = .ok (.ifCond .eq 22, 3) := by decide +kernel
theorem dX10_hasPlace_7 : decode cX10_hasPlace 7 = .ok (.iload_n 1, 1) := by decide +kernel
theorem dX10_hasPlace_8 : decode cX10_hasPlace 8 = .ok (.ifCond .lt 18, 3) := by decide +kernel
theorem dX10_hasPlace_11 : decode cX10_hasPlace 11 = .ok (.iload_n 1, 1) := by decide +kernel
theorem dX10_hasPlace_12 : decode cX10_hasPlace 12 = .ok (.aload_n 0, 1) := by decide +kernel
theorem dX10_hasPlace_13 : decode cX10_hasPlace 13 = .ok (.getfield 45, 3) := by decide +kernel
theorem dX10_hasPlace_16 : decode cX10_hasPlace 16 = .ok (.getfield 128, 3) := by decide +kernel
theorem dX10_hasPlace_19 : decode cX10_hasPlace 19 = .ok (.if_icmp .ge 7, 3) := by decide +kernel
theorem dX10_hasPlace_22 : decode cX10_hasPlace 22 = .ok (.iconst 1, 1) := by decide +kernel
theorem dX10_hasPlace_23 : decode cX10_hasPlace 23 = .ok (.goto 4, 3) := by decide +kernel
theorem dX10_hasPlace_26 : decode cX10_hasPlace 26 = .ok (.iconst 0, 1) := by decide +kernel
theorem dX10_hasPlace_27 : decode cX10_hasPlace 27 = .ok (.ireturn, 1) := by decide +kernel
theorem dX10_hasBlock_0 : decode cX10_hasBlock 0 = .ok (.aload_n 0, 1) := by decide +kernel
theorem dX10_hasBlock_1 : decode cX10_hasBlock 1 = .ok (.getfield 122, 3) := by decide +kernel
theorem dX10_hasBlock_4 : decode cX10_hasBlock 4 = .ok (.ifCond .eq 22, 3) := by decide +kernel
theorem dX10_hasBlock_7 : decode cX10_hasBlock 7 = .ok (.iload_n 1, 1) := by decide +kernel
theorem dX10_hasBlock_8 : decode cX10_hasBlock 8 = .ok (.ifCond .lt 18, 3) := by decide +kernel
theorem dX10_hasBlock_11 : decode cX10_hasBlock 11 = .ok (.iload_n 1, 1) := by decide +kernel
theorem dX10_hasBlock_12 : decode cX10_hasBlock 12 = .ok (.aload_n 0, 1) := by decide +kernel
theorem dX10_hasBlock_13 : decode cX10_hasBlock 13 = .ok (.getfield 45, 3) := by decide +kernel
theorem dX10_hasBlock_16 : decode cX10_hasBlock 16 = .ok (.invokevirtual 381, 3) := by decide +kernel
theorem dX10_hasBlock_19 : decode cX10_hasBlock 19 = .ok (.if_icmp .ge 7, 3) := by decide +kernel
theorem dX10_hasBlock_22 : decode cX10_hasBlock 22 = .ok (.iconst 1, 1) := by decide +kernel
theorem dX10_hasBlock_23 : decode cX10_hasBlock 23 = .ok (.goto 4, 3) := by decide +kernel
theorem dX10_hasBlock_26 : decode cX10_hasBlock 26 = .ok (.iconst 0, 1) := by decide +kernel
theorem dX10_hasBlock_27 : decode cX10_hasBlock 27 = .ok (.ireturn, 1) := by decide +kernel
theorem dX10_current_0 : decode cX10_current 0 = .ok (.aload_n 0, 1) := by decide +kernel
theorem dX10_current_1 : decode cX10_current 1 = .ok (.getfield 125, 3) := by decide +kernel
theorem dX10_current_4 : decode cX10_current 4 = .ok (.ifCond .eq 33, 3) := by decide +kernel
theorem dX10_current_7 : decode cX10_current 7 = .ok (.aload_n 0, 1) := by decide +kernel
theorem dX10_current_8 : decode cX10_current 8 = .ok (.getfield 64, 3) := by decide +kernel
theorem dX10_current_11 : decode cX10_current 11 = .ok (.aload_n 0, 1) := by decide +kernel
theorem dX10_current_12 : decode cX10_current 12 = .ok (.getfield 45, 3) := by decide +kernel
theorem dX10_current_15 : decode cX10_current 15 = .ok (.invokevirtual 382, 3) := by decide +kernel
theorem dX10_current_18 : decode cX10_current 18 = .ok (.aload_n 0, 1) := by decide +kernel
theorem dX10_current_19 : decode cX10_current 19 = .ok (.getfield 73, 3) := by decide +kernel
theorem dX10_current_22 : decode cX10_current 22 = .ok (.invokevirtual 337, 3) := by decide +kernel
theorem dX10_current_25 : decode cX10_current 25 = .ok (.aload_n 0, 1) := by decide +kernel
theorem dX10_current_26 : decode cX10_current 26 = .ok (.getfield 73, 3) := by decide +kernel
theorem dX10_current_29 : decode cX10_current 29 = .ok (.invokevirtual 343, 3) := by decide +kernel
theorem dX10_current_32 : decode cX10_current 32 = .ok (.aload_n 0, 1) := by decide +kernel
theorem dX10_current_33 : decode cX10_current 33 = .ok (.iconst 0, 1) := by decide +kernel
theorem dX10_current_34 : decode cX10_current 34 = .ok (.putfield 125, 3) := by decide +kernel
theorem dX10_current_37 : decode cX10_current 37 = .ok (.aload_n 0, 1) := by decide +kernel
theorem dX10_current_38 : decode cX10_current 38 = .ok (.getfield 73, 3) := by decide +kernel
theorem dX10_current_41 : decode cX10_current 41 = .ok (.areturn, 1) := by decide +kernel
theorem dX10_layOther_0 : decode cX10_layOther 0 = .ok (.aload_n 0, 1) := by decide +kernel
theorem dX10_layOther_1 : decode cX10_layOther 1 = .ok (.getfield 77, 3) := by decide +kernel
theorem dX10_layOther_4 : decode cX10_layOther 4 = .ok (.invokevirtual 337, 3) := by decide +kernel
theorem dX10_layOther_7 : decode cX10_layOther 7 = .ok (.aload_n 0, 1) := by decide +kernel
theorem dX10_layOther_8 : decode cX10_layOther 8 = .ok (.getfield 77, 3) := by decide +kernel
theorem dX10_layOther_11 : decode cX10_layOther 11 = .ok (.getfield 385, 3) := by decide +kernel
theorem dX10_layOther_14 : decode cX10_layOther 14 = .ok (.iload_n 1, 1) := by decide +kernel
theorem dX10_layOther_15 : decode cX10_layOther 15 = .ok (.iload_n 2, 1) := by decide +kernel
theorem dX10_layOther_16 : decode cX10_layOther 16 = .ok (.iastore, 1) := by decide +kernel
theorem dX10_layOther_17 : decode cX10_layOther 17 = .ok (.aload_n 0, 1) := by decide +kernel
theorem dX10_layOther_18 : decode cX10_layOther 18 = .ok (.getfield 77, 3) := by decide +kernel
theorem dX10_layOther_21 : decode cX10_layOther 21 = .ok (.invokevirtual 343, 3) := by decide +kernel
theorem dX10_layOther_24 : decode cX10_layOther 24 = .ok (.return_, 1) := by decide +kernel
theorem dX10_placesOf_0 : decode cX10_placesOf 0 = .ok (.iconst 0, 1) := by decide +kernel
theorem dX10_placesOf_1 : decode cX10_placesOf 1 = .ok (.istore_n 3, 1) := by decide +kernel
theorem dX10_placesOf_2 : decode cX10_placesOf 2 = .ok (.iload_n 3, 1) := by decide +kernel
theorem dX10_placesOf_3 : decode cX10_placesOf 3 = .ok (.iload_n 2, 1) := by decide +kernel
theorem dX10_placesOf_4 : decode cX10_placesOf 4 = .ok (.if_icmp .ge 36, 3) := by decide +kernel
theorem dX10_placesOf_7 : decode cX10_placesOf 7 = .ok (.aload_n 0, 1) := by decide +kernel
theorem dX10_placesOf_8 : decode cX10_placesOf 8 = .ok (.getfield 64, 3) := by decide +kernel
theorem dX10_placesOf_11 : decode cX10_placesOf 11 = .ok (.iload_n 1, 1) := by decide +kernel
theorem dX10_placesOf_12 : decode cX10_placesOf 12 = .ok (.iload_n 3, 1) := by decide +kernel
theorem dX10_placesOf_13 : decode cX10_placesOf 13 = .ok (.invokevirtual 196, 3) := by decide +kernel
theorem dX10_placesOf_16 : decode cX10_placesOf 16 = .ok (.ldc2_w 200, 3) := by decide +kernel
theorem dX10_placesOf_19 : decode cX10_placesOf 19 = .ok (.lcmp, 1) := by decide +kernel
theorem dX10_placesOf_20 : decode cX10_placesOf 20 = .ok (.ifCond .eq 14, 3) := by decide +kernel
theorem dX10_placesOf_23 : decode cX10_placesOf 23 = .ok (.aload_n 0, 1) := by decide +kernel
theorem dX10_placesOf_24 : decode cX10_placesOf 24 = .ok (.getfield 64, 3) := by decide +kernel
theorem dX10_placesOf_27 : decode cX10_placesOf 27 = .ok (.iload_n 3, 1) := by decide +kernel
theorem dX10_placesOf_28 : decode cX10_placesOf 28 = .ok (.invokevirtual 233, 3) := by decide +kernel
theorem dX10_placesOf_31 : decode cX10_placesOf 31 = .ok (.iconst 4, 1) := by decide +kernel
theorem dX10_placesOf_32 : decode cX10_placesOf 32 = .ok (.ishr, 1) := by decide +kernel
theorem dX10_placesOf_33 : decode cX10_placesOf 33 = .ok (.ireturn, 1) := by decide +kernel
theorem dX10_placesOf_34 : decode cX10_placesOf 34 = .ok (.iinc 3 1, 3) := by decide +kernel
theorem dX10_placesOf_37 : decode cX10_placesOf 37 = .ok (.goto (-35), 3) := by decide +kernel
theorem dX10_placesOf_40 : decode cX10_placesOf 40 = .ok (.iconst (-1), 1) := by decide +kernel
theorem dX10_placesOf_41 : decode cX10_placesOf 41 = .ok (.ireturn, 1) := by decide +kernel
theorem dX10_waysOf_0 : decode cX10_waysOf 0 = .ok (.iconst 0, 1) := by decide +kernel
theorem dX10_waysOf_1 : decode cX10_waysOf 1 = .ok (.istore_n 3, 1) := by decide +kernel
theorem dX10_waysOf_2 : decode cX10_waysOf 2 = .ok (.iconst 0, 1) := by decide +kernel
theorem dX10_waysOf_3 : decode cX10_waysOf 3 = .ok (.istore 4, 2) := by decide +kernel
theorem dX10_waysOf_5 : decode cX10_waysOf 5 = .ok (.iload 4, 2) := by decide +kernel
theorem dX10_waysOf_7 : decode cX10_waysOf 7 = .ok (.iload_n 2, 1) := by decide +kernel
theorem dX10_waysOf_8 : decode cX10_waysOf 8 = .ok (.if_icmp .ge 29, 3) := by decide +kernel
theorem dX10_waysOf_11 : decode cX10_waysOf 11 = .ok (.aload_n 0, 1) := by decide +kernel
theorem dX10_waysOf_12 : decode cX10_waysOf 12 = .ok (.getfield 64, 3) := by decide +kernel
theorem dX10_waysOf_15 : decode cX10_waysOf 15 = .ok (.iload_n 1, 1) := by decide +kernel
theorem dX10_waysOf_16 : decode cX10_waysOf 16 = .ok (.iload 4, 2) := by decide +kernel
theorem dX10_waysOf_18 : decode cX10_waysOf 18 = .ok (.invokevirtual 196, 3) := by decide +kernel
theorem dX10_waysOf_21 : decode cX10_waysOf 21 = .ok (.ldc2_w 200, 3) := by decide +kernel
theorem dX10_waysOf_24 : decode cX10_waysOf 24 = .ok (.lcmp, 1) := by decide +kernel
theorem dX10_waysOf_25 : decode cX10_waysOf 25 = .ok (.ifCond .eq 6, 3) := by decide +kernel
theorem dX10_waysOf_28 : decode cX10_waysOf 28 = .ok (.iinc 3 1, 3) := by decide +kernel
theorem dX10_waysOf_31 : decode cX10_waysOf 31 = .ok (.iinc 4 1, 3) := by decide +kernel
theorem dX10_waysOf_34 : decode cX10_waysOf 34 = .ok (.goto (-29), 3) := by decide +kernel
theorem dX10_waysOf_37 : decode cX10_waysOf 37 = .ok (.iload_n 3, 1) := by decide +kernel
theorem dX10_waysOf_38 : decode cX10_waysOf 38 = .ok (.ireturn, 1) := by decide +kernel
theorem dX10_sumInOrder_0 : decode cX10_sumInOrder 0 = .ok (.lconst 0, 1) := by decide +kernel
theorem dX10_sumInOrder_1 : decode cX10_sumInOrder 1 = .ok (.lstore_n 1, 1) := by decide +kernel
theorem dX10_sumInOrder_2 : decode cX10_sumInOrder 2 = .ok (.iconst 0, 1) := by decide +kernel
theorem dX10_sumInOrder_3 : decode cX10_sumInOrder 3 = .ok (.istore_n 3, 1) := by decide +kernel
theorem dX10_sumInOrder_4 : decode cX10_sumInOrder 4 = .ok (.iload_n 3, 1) := by decide +kernel
theorem dX10_sumInOrder_5 : decode cX10_sumInOrder 5 = .ok (.aload_n 0, 1) := by decide +kernel
theorem dX10_sumInOrder_6 : decode cX10_sumInOrder 6 = .ok (.getfield 45, 3) := by decide +kernel
theorem dX10_sumInOrder_9 : decode cX10_sumInOrder 9 = .ok (.getfield 128, 3) := by decide +kernel
theorem dX10_sumInOrder_12 : decode cX10_sumInOrder 12 = .ok (.if_icmp .ge 42, 3) := by decide +kernel
theorem dX10_sumInOrder_15 : decode cX10_sumInOrder 15 = .ok (.aload_n 0, 1) := by decide +kernel
theorem dX10_sumInOrder_16 : decode cX10_sumInOrder 16 = .ok (.getfield 45, 3) := by decide +kernel
theorem dX10_sumInOrder_19 : decode cX10_sumInOrder 19 = .ok (.getfield 154, 3) := by decide +kernel
theorem dX10_sumInOrder_22 : decode cX10_sumInOrder 22 = .ok (.iload_n 3, 1) := by decide +kernel
theorem dX10_sumInOrder_23 : decode cX10_sumInOrder 23 = .ok (.laload, 1) := by decide +kernel
theorem dX10_sumInOrder_24 : decode cX10_sumInOrder 24 = .ok (.invokestatic 158, 3) := by decide +kernel
theorem dX10_sumInOrder_27 : decode cX10_sumInOrder 27 = .ok (.ifCond .eq 21, 3) := by decide +kernel
theorem dX10_sumInOrder_30 : decode cX10_sumInOrder 30 = .ok (.aload_n 0, 1) := by decide +kernel
theorem dX10_sumInOrder_31 : decode cX10_sumInOrder 31 = .ok (.getfield 12, 3) := by decide +kernel
theorem dX10_sumInOrder_34 : decode cX10_sumInOrder 34 = .ok (.lload_n 1, 1) := by decide +kernel
theorem dX10_sumInOrder_35 : decode cX10_sumInOrder 35 = .ok (.aload_n 0, 1) := by decide +kernel
theorem dX10_sumInOrder_36 : decode cX10_sumInOrder 36 = .ok (.getfield 45, 3) := by decide +kernel
theorem dX10_sumInOrder_39 : decode cX10_sumInOrder 39 = .ok (.getfield 154, 3) := by decide +kernel
theorem dX10_sumInOrder_42 : decode cX10_sumInOrder 42 = .ok (.iload_n 3, 1) := by decide +kernel
theorem dX10_sumInOrder_43 : decode cX10_sumInOrder 43 = .ok (.laload, 1) := by decide +kernel
theorem dX10_sumInOrder_44 : decode cX10_sumInOrder 44 = .ok (.invokevirtual 386, 3) := by decide +kernel
theorem dX10_sumInOrder_47 : decode cX10_sumInOrder 47 = .ok (.lstore_n 1, 1) := by decide +kernel
theorem dX10_sumInOrder_48 : decode cX10_sumInOrder 48 = .ok (.iinc 3 1, 3) := by decide +kernel
theorem dX10_sumInOrder_51 : decode cX10_sumInOrder 51 = .ok (.goto (-47), 3) := by decide +kernel
theorem dX10_sumInOrder_54 : decode cX10_sumInOrder 54 = .ok (.lload_n 1, 1) := by decide +kernel
theorem dX10_sumInOrder_55 : decode cX10_sumInOrder 55 = .ok (.lreturn, 1) := by decide +kernel
theorem dX10_sumByPairs_0 : decode cX10_sumByPairs 0 = .ok (.iconst 0, 1) := by decide +kernel
theorem dX10_sumByPairs_1 : decode cX10_sumByPairs 1 = .ok (.istore_n 1, 1) := by decide +kernel
theorem dX10_sumByPairs_2 : decode cX10_sumByPairs 2 = .ok (.iconst 0, 1) := by decide +kernel
theorem dX10_sumByPairs_3 : decode cX10_sumByPairs 3 = .ok (.istore_n 2, 1) := by decide +kernel
theorem dX10_sumByPairs_4 : decode cX10_sumByPairs 4 = .ok (.iload_n 2, 1) := by decide +kernel
theorem dX10_sumByPairs_5 : decode cX10_sumByPairs 5 = .ok (.aload_n 0, 1) := by decide +kernel
theorem dX10_sumByPairs_6 : decode cX10_sumByPairs 6 = .ok (.getfield 45, 3) := by decide +kernel
theorem dX10_sumByPairs_9 : decode cX10_sumByPairs 9 = .ok (.getfield 128, 3) := by decide +kernel
theorem dX10_sumByPairs_12 : decode cX10_sumByPairs 12 = .ok (.if_icmp .ge 42, 3) := by decide +kernel
theorem dX10_sumByPairs_15 : decode cX10_sumByPairs 15 = .ok (.aload_n 0, 1) := by decide +kernel
theorem dX10_sumByPairs_16 : decode cX10_sumByPairs 16 = .ok (.getfield 45, 3) := by decide +kernel
theorem dX10_sumByPairs_19 : decode cX10_sumByPairs 19 = .ok (.getfield 154, 3) := by decide +kernel
theorem dX10_sumByPairs_22 : decode cX10_sumByPairs 22 = .ok (.iload_n 2, 1) := by decide +kernel
theorem dX10_sumByPairs_23 : decode cX10_sumByPairs 23 = .ok (.laload, 1) := by decide +kernel
theorem dX10_sumByPairs_24 : decode cX10_sumByPairs 24 = .ok (.invokestatic 158, 3) := by decide +kernel
theorem dX10_sumByPairs_27 : decode cX10_sumByPairs 27 = .ok (.ifCond .eq 21, 3) := by decide +kernel
theorem dX10_sumByPairs_30 : decode cX10_sumByPairs 30 = .ok (.aload_n 0, 1) := by decide +kernel
theorem dX10_sumByPairs_31 : decode cX10_sumByPairs 31 = .ok (.getfield 93, 3) := by decide +kernel
theorem dX10_sumByPairs_34 : decode cX10_sumByPairs 34 = .ok (.iload_n 1, 1) := by decide +kernel
theorem dX10_sumByPairs_35 : decode cX10_sumByPairs 35 = .ok (.aload_n 0, 1) := by decide +kernel
theorem dX10_sumByPairs_36 : decode cX10_sumByPairs 36 = .ok (.getfield 45, 3) := by decide +kernel
theorem dX10_sumByPairs_39 : decode cX10_sumByPairs 39 = .ok (.getfield 154, 3) := by decide +kernel
theorem dX10_sumByPairs_42 : decode cX10_sumByPairs 42 = .ok (.iload_n 2, 1) := by decide +kernel
theorem dX10_sumByPairs_43 : decode cX10_sumByPairs 43 = .ok (.laload, 1) := by decide +kernel
theorem dX10_sumByPairs_44 : decode cX10_sumByPairs 44 = .ok (.lastore, 1) := by decide +kernel
theorem dX10_sumByPairs_45 : decode cX10_sumByPairs 45 = .ok (.iinc 1 1, 3) := by decide +kernel
theorem dX10_sumByPairs_48 : decode cX10_sumByPairs 48 = .ok (.iinc 2 1, 3) := by decide +kernel
theorem dX10_sumByPairs_51 : decode cX10_sumByPairs 51 = .ok (.goto (-47), 3) := by decide +kernel
theorem dX10_sumByPairs_54 : decode cX10_sumByPairs 54 = .ok (.iload_n 1, 1) := by decide +kernel
theorem dX10_sumByPairs_55 : decode cX10_sumByPairs 55 = .ok (.ifCond .ne 5, 3) := by decide +kernel
theorem dX10_sumByPairs_58 : decode cX10_sumByPairs 58 = .ok (.lconst 0, 1) := by decide +kernel
theorem dX10_sumByPairs_59 : decode cX10_sumByPairs 59 = .ok (.lreturn, 1) := by decide +kernel
theorem dX10_sumByPairs_60 : decode cX10_sumByPairs 60 = .ok (.iload_n 1, 1) := by decide +kernel
theorem dX10_sumByPairs_61 : decode cX10_sumByPairs 61 = .ok (.iconst 1, 1) := by decide +kernel
theorem dX10_sumByPairs_62 : decode cX10_sumByPairs 62 = .ok (.if_icmp .le 79, 3) := by decide +kernel
theorem dX10_sumByPairs_65 : decode cX10_sumByPairs 65 = .ok (.iload_n 1, 1) := by decide +kernel
theorem dX10_sumByPairs_66 : decode cX10_sumByPairs 66 = .ok (.iconst 2, 1) := by decide +kernel
theorem dX10_sumByPairs_67 : decode cX10_sumByPairs 67 = .ok (.idiv, 1) := by decide +kernel
theorem dX10_sumByPairs_68 : decode cX10_sumByPairs 68 = .ok (.istore_n 2, 1) := by decide +kernel
theorem dX10_sumByPairs_69 : decode cX10_sumByPairs 69 = .ok (.iconst 0, 1) := by decide +kernel
theorem dX10_sumByPairs_70 : decode cX10_sumByPairs 70 = .ok (.istore_n 3, 1) := by decide +kernel
theorem dX10_sumByPairs_71 : decode cX10_sumByPairs 71 = .ok (.iload_n 3, 1) := by decide +kernel
theorem dX10_sumByPairs_72 : decode cX10_sumByPairs 72 = .ok (.iload_n 2, 1) := by decide +kernel
theorem dX10_sumByPairs_73 : decode cX10_sumByPairs 73 = .ok (.if_icmp .ge 40, 3) := by decide +kernel
theorem dX10_sumByPairs_76 : decode cX10_sumByPairs 76 = .ok (.aload_n 0, 1) := by decide +kernel
theorem dX10_sumByPairs_77 : decode cX10_sumByPairs 77 = .ok (.getfield 93, 3) := by decide +kernel
theorem dX10_sumByPairs_80 : decode cX10_sumByPairs 80 = .ok (.iload_n 3, 1) := by decide +kernel
theorem dX10_sumByPairs_81 : decode cX10_sumByPairs 81 = .ok (.aload_n 0, 1) := by decide +kernel
theorem dX10_sumByPairs_82 : decode cX10_sumByPairs 82 = .ok (.getfield 12, 3) := by decide +kernel
theorem dX10_sumByPairs_85 : decode cX10_sumByPairs 85 = .ok (.aload_n 0, 1) := by decide +kernel
theorem dX10_sumByPairs_86 : decode cX10_sumByPairs 86 = .ok (.getfield 93, 3) := by decide +kernel
theorem dX10_sumByPairs_89 : decode cX10_sumByPairs 89 = .ok (.iconst 2, 1) := by decide +kernel
theorem dX10_sumByPairs_90 : decode cX10_sumByPairs 90 = .ok (.iload_n 3, 1) := by decide +kernel
theorem dX10_sumByPairs_91 : decode cX10_sumByPairs 91 = .ok (.imul, 1) := by decide +kernel
theorem dX10_sumByPairs_92 : decode cX10_sumByPairs 92 = .ok (.laload, 1) := by decide +kernel
theorem dX10_sumByPairs_93 : decode cX10_sumByPairs 93 = .ok (.aload_n 0, 1) := by decide +kernel
theorem dX10_sumByPairs_94 : decode cX10_sumByPairs 94 = .ok (.getfield 93, 3) := by decide +kernel
theorem dX10_sumByPairs_97 : decode cX10_sumByPairs 97 = .ok (.iconst 2, 1) := by decide +kernel
theorem dX10_sumByPairs_98 : decode cX10_sumByPairs 98 = .ok (.iload_n 3, 1) := by decide +kernel
theorem dX10_sumByPairs_99 : decode cX10_sumByPairs 99 = .ok (.imul, 1) := by decide +kernel
theorem dX10_sumByPairs_100 : decode cX10_sumByPairs 100 = .ok (.iconst 1, 1) := by decide +kernel
theorem dX10_sumByPairs_101 : decode cX10_sumByPairs 101 = .ok (.iadd, 1) := by decide +kernel
theorem dX10_sumByPairs_102 : decode cX10_sumByPairs 102 = .ok (.laload, 1) := by decide +kernel
theorem dX10_sumByPairs_103 : decode cX10_sumByPairs 103 = .ok (.invokevirtual 386, 3) := by decide +kernel
theorem dX10_sumByPairs_106 : decode cX10_sumByPairs 106 = .ok (.lastore, 1) := by decide +kernel
theorem dX10_sumByPairs_107 : decode cX10_sumByPairs 107 = .ok (.iinc 3 1, 3) := by decide +kernel
theorem dX10_sumByPairs_110 : decode cX10_sumByPairs 110 = .ok (.goto (-39), 3) := by decide +kernel
theorem dX10_sumByPairs_113 : decode cX10_sumByPairs 113 = .ok (.iload_n 1, 1) := by decide +kernel
theorem dX10_sumByPairs_114 : decode cX10_sumByPairs 114 = .ok (.iconst 2, 1) := by decide +kernel
theorem dX10_sumByPairs_115 : decode cX10_sumByPairs 115 = .ok (.irem, 1) := by decide +kernel
theorem dX10_sumByPairs_116 : decode cX10_sumByPairs 116 = .ok (.iconst 1, 1) := by decide +kernel
theorem dX10_sumByPairs_117 : decode cX10_sumByPairs 117 = .ok (.if_icmp .ne 17, 3) := by decide +kernel
theorem dX10_sumByPairs_120 : decode cX10_sumByPairs 120 = .ok (.aload_n 0, 1) := by decide +kernel
theorem dX10_sumByPairs_121 : decode cX10_sumByPairs 121 = .ok (.getfield 93, 3) := by decide +kernel
theorem dX10_sumByPairs_124 : decode cX10_sumByPairs 124 = .ok (.iload_n 2, 1) := by decide +kernel
theorem dX10_sumByPairs_125 : decode cX10_sumByPairs 125 = .ok (.aload_n 0, 1) := by decide +kernel
theorem dX10_sumByPairs_126 : decode cX10_sumByPairs 126 = .ok (.getfield 93, 3) := by decide +kernel
theorem dX10_sumByPairs_129 : decode cX10_sumByPairs 129 = .ok (.iload_n 1, 1) := by decide +kernel
theorem dX10_sumByPairs_130 : decode cX10_sumByPairs 130 = .ok (.iconst 1, 1) := by decide +kernel
theorem dX10_sumByPairs_131 : decode cX10_sumByPairs 131 = .ok (.isub, 1) := by decide +kernel
theorem dX10_sumByPairs_132 : decode cX10_sumByPairs 132 = .ok (.laload, 1) := by decide +kernel
theorem dX10_sumByPairs_133 : decode cX10_sumByPairs 133 = .ok (.lastore, 1) := by decide +kernel
theorem dX10_sumByPairs_134 : decode cX10_sumByPairs 134 = .ok (.iload_n 1, 1) := by decide +kernel
theorem dX10_sumByPairs_135 : decode cX10_sumByPairs 135 = .ok (.iload_n 2, 1) := by decide +kernel
theorem dX10_sumByPairs_136 : decode cX10_sumByPairs 136 = .ok (.isub, 1) := by decide +kernel
theorem dX10_sumByPairs_137 : decode cX10_sumByPairs 137 = .ok (.istore_n 1, 1) := by decide +kernel
theorem dX10_sumByPairs_138 : decode cX10_sumByPairs 138 = .ok (.goto (-78), 3) := by decide +kernel
theorem dX10_sumByPairs_141 : decode cX10_sumByPairs 141 = .ok (.aload_n 0, 1) := by decide +kernel
theorem dX10_sumByPairs_142 : decode cX10_sumByPairs 142 = .ok (.getfield 93, 3) := by decide +kernel
theorem dX10_sumByPairs_145 : decode cX10_sumByPairs 145 = .ok (.iconst 0, 1) := by decide +kernel
theorem dX10_sumByPairs_146 : decode cX10_sumByPairs 146 = .ok (.laload, 1) := by decide +kernel
theorem dX10_sumByPairs_147 : decode cX10_sumByPairs 147 = .ok (.lreturn, 1) := by decide +kernel
theorem dX10_isRule_0 : decode cX10_isRule 0 = .ok (.iload_n 0, 1) := by decide +kernel
theorem dX10_isRule_1 : decode cX10_isRule 1 = .ok (.ifCond .lt 12, 3) := by decide +kernel
theorem dX10_isRule_4 : decode cX10_isRule 4 = .ok (.iload_n 0, 1) := by decide +kernel
theorem dX10_isRule_5 : decode cX10_isRule 5 = .ok (.iconst 5, 1) := by decide +kernel
theorem dX10_isRule_6 : decode cX10_isRule 6 = .ok (.if_icmp .ge 7, 3) := by decide +kernel
theorem dX10_isRule_9 : decode cX10_isRule 9 = .ok (.iconst 1, 1) := by decide +kernel
theorem dX10_isRule_10 : decode cX10_isRule 10 = .ok (.goto 4, 3) := by decide +kernel
theorem dX10_isRule_13 : decode cX10_isRule 13 = .ok (.iconst 0, 1) := by decide +kernel
theorem dX10_isRule_14 : decode cX10_isRule 14 = .ok (.ireturn, 1) := by decide +kernel
theorem dX10_isBound_0 : decode cX10_isBound 0 = .ok (.iload_n 1, 1) := by decide +kernel
theorem dX10_isBound_1 : decode cX10_isBound 1 = .ok (.getstatic 346, 3) := by decide +kernel
theorem dX10_isBound_4 : decode cX10_isBound 4 = .ok (.iload_n 0, 1) := by decide +kernel
theorem dX10_isBound_5 : decode cX10_isBound 5 = .ok (.iaload, 1) := by decide +kernel
theorem dX10_isBound_6 : decode cX10_isBound 6 = .ok (.if_icmp .lt 16, 3) := by decide +kernel
theorem dX10_isBound_9 : decode cX10_isBound 9 = .ok (.iload_n 1, 1) := by decide +kernel
theorem dX10_isBound_10 : decode cX10_isBound 10 = .ok (.getstatic 349, 3) := by decide +kernel
theorem dX10_isBound_13 : decode cX10_isBound 13 = .ok (.iload_n 0, 1) := by decide +kernel
theorem dX10_isBound_14 : decode cX10_isBound 14 = .ok (.iaload, 1) := by decide +kernel
theorem dX10_isBound_15 : decode cX10_isBound 15 = .ok (.if_icmp .gt 7, 3) := by decide +kernel
theorem dX10_isBound_18 : decode cX10_isBound 18 = .ok (.iconst 1, 1) := by decide +kernel
theorem dX10_isBound_19 : decode cX10_isBound 19 = .ok (.goto 4, 3) := by decide +kernel
theorem dX10_isBound_22 : decode cX10_isBound 22 = .ok (.iconst 0, 1) := by decide +kernel
theorem dX10_isBound_23 : decode cX10_isBound 23 = .ok (.ireturn, 1) := by decide +kernel
theorem dX10_isPair_0 : decode cX10_isPair 0 = .ok (.iload_n 0, 1) := by decide +kernel
theorem dX10_isPair_1 : decode cX10_isPair 1 = .ok (.ifCond .lt 22, 3) := by decide +kernel
theorem dX10_isPair_4 : decode cX10_isPair 4 = .ok (.iload_n 0, 1) := by decide +kernel
theorem dX10_isPair_5 : decode cX10_isPair 5 = .ok (.bipush 15, 2) := by decide +kernel
theorem dX10_isPair_7 : decode cX10_isPair 7 = .ok (.if_icmp .ge 16, 3) := by decide +kernel
theorem dX10_isPair_10 : decode cX10_isPair 10 = .ok (.iload_n 1, 1) := by decide +kernel
theorem dX10_isPair_11 : decode cX10_isPair 11 = .ok (.ifCond .lt 12, 3) := by decide +kernel
theorem dX10_isPair_14 : decode cX10_isPair 14 = .ok (.iload_n 1, 1) := by decide +kernel
theorem dX10_isPair_15 : decode cX10_isPair 15 = .ok (.iload_n 0, 1) := by decide +kernel
theorem dX10_isPair_16 : decode cX10_isPair 16 = .ok (.if_icmp .gt 7, 3) := by decide +kernel
theorem dX10_isPair_19 : decode cX10_isPair 19 = .ok (.iconst 1, 1) := by decide +kernel
theorem dX10_isPair_20 : decode cX10_isPair 20 = .ok (.goto 4, 3) := by decide +kernel
theorem dX10_isPair_23 : decode cX10_isPair 23 = .ok (.iconst 0, 1) := by decide +kernel
theorem dX10_isPair_24 : decode cX10_isPair 24 = .ok (.ireturn, 1) := by decide +kernel
theorem dX10_pairNumber_0 : decode cX10_pairNumber 0 = .ok (.iload_n 0, 1) := by decide +kernel
theorem dX10_pairNumber_1 : decode cX10_pairNumber 1 = .ok (.iload_n 0, 1) := by decide +kernel
theorem dX10_pairNumber_2 : decode cX10_pairNumber 2 = .ok (.iconst 1, 1) := by decide +kernel
theorem dX10_pairNumber_3 : decode cX10_pairNumber 3 = .ok (.iadd, 1) := by decide +kernel
theorem dX10_pairNumber_4 : decode cX10_pairNumber 4 = .ok (.imul, 1) := by decide +kernel
theorem dX10_pairNumber_5 : decode cX10_pairNumber 5 = .ok (.iconst 2, 1) := by decide +kernel
theorem dX10_pairNumber_6 : decode cX10_pairNumber 6 = .ok (.idiv, 1) := by decide +kernel
theorem dX10_pairNumber_7 : decode cX10_pairNumber 7 = .ok (.iload_n 1, 1) := by decide +kernel
theorem dX10_pairNumber_8 : decode cX10_pairNumber 8 = .ok (.iadd, 1) := by decide +kernel
theorem dX10_pairNumber_9 : decode cX10_pairNumber 9 = .ok (.ireturn, 1) := by decide +kernel
theorem dX10_isFinite_0 : decode cX10_isFinite 0 = .ok (.lload_n 0, 1) := by decide +kernel
theorem dX10_isFinite_1 : decode cX10_isFinite 1 = .ok (.ldc2_w 390, 3) := by decide +kernel
theorem dX10_isFinite_4 : decode cX10_isFinite 4 = .ok (.land, 1) := by decide +kernel
theorem dX10_isFinite_5 : decode cX10_isFinite 5 = .ok (.ldc2_w 390, 3) := by decide +kernel
theorem dX10_isFinite_8 : decode cX10_isFinite 8 = .ok (.lcmp, 1) := by decide +kernel
theorem dX10_isFinite_9 : decode cX10_isFinite 9 = .ok (.ifCond .eq 7, 3) := by decide +kernel
theorem dX10_isFinite_12 : decode cX10_isFinite 12 = .ok (.iconst 1, 1) := by decide +kernel
theorem dX10_isFinite_13 : decode cX10_isFinite 13 = .ok (.goto 4, 3) := by decide +kernel
theorem dX10_isFinite_16 : decode cX10_isFinite 16 = .ok (.iconst 0, 1) := by decide +kernel
theorem dX10_isFinite_17 : decode cX10_isFinite 17 = .ok (.ireturn, 1) := by decide +kernel
theorem dX10_isMissing_0 : decode cX10_isMissing 0 = .ok (.lload_n 0, 1) := by decide +kernel
theorem dX10_isMissing_1 : decode cX10_isMissing 1 = .ok (.invokestatic 158, 3) := by decide +kernel
theorem dX10_isMissing_4 : decode cX10_isMissing 4 = .ok (.ifCond .ne 17, 3) := by decide +kernel
theorem dX10_isMissing_7 : decode cX10_isMissing 7 = .ok (.lload_n 0, 1) := by decide +kernel
theorem dX10_isMissing_8 : decode cX10_isMissing 8 = .ok (.ldc2_w 392, 3) := by decide +kernel
theorem dX10_isMissing_11 : decode cX10_isMissing 11 = .ok (.land, 1) := by decide +kernel
theorem dX10_isMissing_12 : decode cX10_isMissing 12 = .ok (.lconst 0, 1) := by decide +kernel
theorem dX10_isMissing_13 : decode cX10_isMissing 13 = .ok (.lcmp, 1) := by decide +kernel
theorem dX10_isMissing_14 : decode cX10_isMissing 14 = .ok (.ifCond .eq 7, 3) := by decide +kernel
theorem dX10_isMissing_17 : decode cX10_isMissing 17 = .ok (.iconst 1, 1) := by decide +kernel
theorem dX10_isMissing_18 : decode cX10_isMissing 18 = .ok (.goto 4, 3) := by decide +kernel
theorem dX10_isMissing_21 : decode cX10_isMissing 21 = .ok (.iconst 0, 1) := by decide +kernel
theorem dX10_isMissing_22 : decode cX10_isMissing 22 = .ok (.ireturn, 1) := by decide +kernel
theorem dX10_blocksFor_0 : decode cX10_blocksFor 0 = .ok (.iload_n 1, 1) := by decide +kernel
theorem dX10_blocksFor_1 : decode cX10_blocksFor 1 = .ok (.ifCond .le 13, 3) := by decide +kernel
theorem dX10_blocksFor_4 : decode cX10_blocksFor 4 = .ok (.iload_n 0, 1) := by decide +kernel
theorem dX10_blocksFor_5 : decode cX10_blocksFor 5 = .ok (.iload_n 1, 1) := by decide +kernel
theorem dX10_blocksFor_6 : decode cX10_blocksFor 6 = .ok (.iadd, 1) := by decide +kernel
theorem dX10_blocksFor_7 : decode cX10_blocksFor 7 = .ok (.iconst 1, 1) := by decide +kernel
theorem dX10_blocksFor_8 : decode cX10_blocksFor 8 = .ok (.isub, 1) := by decide +kernel
theorem dX10_blocksFor_9 : decode cX10_blocksFor 9 = .ok (.iload_n 1, 1) := by decide +kernel
theorem dX10_blocksFor_10 : decode cX10_blocksFor 10 = .ok (.idiv, 1) := by decide +kernel
theorem dX10_blocksFor_11 : decode cX10_blocksFor 11 = .ok (.goto 4, 3) := by decide +kernel
theorem dX10_blocksFor_14 : decode cX10_blocksFor 14 = .ok (.iconst 0, 1) := by decide +kernel
theorem dX10_blocksFor_15 : decode cX10_blocksFor 15 = .ok (.ireturn, 1) := by decide +kernel
theorem dX10_bitLength_0 : decode cX10_bitLength 0 = .ok (.iconst 0, 1) := by decide +kernel
theorem dX10_bitLength_1 : decode cX10_bitLength 1 = .ok (.istore_n 2, 1) := by decide +kernel
theorem dX10_bitLength_2 : decode cX10_bitLength 2 = .ok (.iload_n 2, 1) := by decide +kernel
theorem dX10_bitLength_3 : decode cX10_bitLength 3 = .ok (.bipush 64, 2) := by decide +kernel
theorem dX10_bitLength_5 : decode cX10_bitLength 5 = .ok (.if_icmp .ge 17, 3) := by decide +kernel
theorem dX10_bitLength_8 : decode cX10_bitLength 8 = .ok (.lload_n 0, 1) := by decide +kernel
theorem dX10_bitLength_9 : decode cX10_bitLength 9 = .ok (.iload_n 2, 1) := by decide +kernel
theorem dX10_bitLength_10 : decode cX10_bitLength 10 = .ok (.lushr, 1) := by decide +kernel
theorem dX10_bitLength_11 : decode cX10_bitLength 11 = .ok (.lconst 0, 1) := by decide +kernel
theorem dX10_bitLength_12 : decode cX10_bitLength 12 = .ok (.lcmp, 1) := by decide +kernel
theorem dX10_bitLength_13 : decode cX10_bitLength 13 = .ok (.ifCond .eq 9, 3) := by decide +kernel
theorem dX10_bitLength_16 : decode cX10_bitLength 16 = .ok (.iinc 2 1, 3) := by decide +kernel
theorem dX10_bitLength_19 : decode cX10_bitLength 19 = .ok (.goto (-17), 3) := by decide +kernel
theorem dX10_bitLength_22 : decode cX10_bitLength 22 = .ok (.iload_n 2, 1) := by decide +kernel
theorem dX10_bitLength_23 : decode cX10_bitLength 23 = .ok (.ireturn, 1) := by decide +kernel
