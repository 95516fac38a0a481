theorem dX11_set_3 : decode cX11_set 3 = .ok (.invokevirtual 439, 3) := by decide +kernel
theorem dX11_set_6 : decode cX11_set 6 = .ok (.ifCond .ne 7, 3) := by decide +kernel
theorem dX11_set_9 : decode cX11_set 9 = .ok (.iconst 0, 1) := by decide +kernel
theorem dX11_set_10 : decode cX11_set 10 = .ok (.goto 37, 3) := by decide +kernel
theorem dX11_set_13 : decode cX11_set 13 = .ok (.iload_n 2, 1) := by decide +kernel
theorem dX11_set_14 : decode cX11_set 14 = .ok (.iload_n 1, 1) := by decide +kernel
theorem dX11_set_15 : decode cX11_set 15 = .ok (.invokestatic 131, 3) := by decide +kernel
theorem dX11_set_18 : decode cX11_set 18 = .ok (.iload_n 1, 1) := by decide +kernel
theorem dX11_set_19 : decode cX11_set 19 = .ok (.invokestatic 134, 3) := by decide +kernel
theorem dX11_set_22 : decode cX11_set 22 = .ok (.invokestatic 99, 3) := by decide +kernel
theorem dX11_set_25 : decode cX11_set 25 = .ok (.ifCond .ne 7, 3) := by decide +kernel
theorem dX11_set_28 : decode cX11_set 28 = .ok (.iconst 1, 1) := by decide +kernel
theorem dX11_set_29 : decode cX11_set 29 = .ok (.goto 18, 3) := by decide +kernel
theorem dX11_set_32 : decode cX11_set 32 = .ok (.aload_n 0, 1) := by decide +kernel
theorem dX11_set_33 : decode cX11_set 33 = .ok (.getfield 36, 3) := by decide +kernel
theorem dX11_set_36 : decode cX11_set 36 = .ok (.iload_n 1, 1) := by decide +kernel
theorem dX11_set_37 : decode cX11_set 37 = .ok (.iaload, 1) := by decide +kernel
theorem dX11_set_38 : decode cX11_set 38 = .ok (.iload_n 2, 1) := by decide +kernel
theorem dX11_set_39 : decode cX11_set 39 = .ok (.if_icmp .ne 7, 3) := by decide +kernel
theorem dX11_set_42 : decode cX11_set 42 = .ok (.iconst 2, 1) := by decide +kernel
theorem dX11_set_43 : decode cX11_set 43 = .ok (.goto 4, 3) := by decide +kernel
theorem dX11_set_46 : decode cX11_set 46 = .ok (.iconst (-1), 1) := by decide +kernel
theorem dX11_set_47 : decode cX11_set 47 = .ok (.invokevirtual 433, 3) := by decide +kernel
theorem dX11_set_50 : decode cX11_set 50 = .ok (.ifCond .eq 5, 3) := by decide +kernel
theorem dX11_set_53 : decode cX11_set 53 = .ok (.iconst (-1), 1) := by decide +kernel
theorem dX11_set_54 : decode cX11_set 54 = .ok (.ireturn, 1) := by decide +kernel
theorem dX11_set_55 : decode cX11_set 55 = .ok (.aload_n 0, 1) := by decide +kernel
theorem dX11_set_56 : decode cX11_set 56 = .ok (.getfield 36, 3) := by decide +kernel
theorem dX11_set_59 : decode cX11_set 59 = .ok (.iload_n 1, 1) := by decide +kernel
theorem dX11_set_60 : decode cX11_set 60 = .ok (.iaload, 1) := by decide +kernel
theorem dX11_set_61 : decode cX11_set 61 = .ok (.istore_n 3, 1) := by decide +kernel
theorem dX11_set_62 : decode cX11_set 62 = .ok (.aload_n 0, 1) := by decide +kernel
theorem dX11_set_63 : decode cX11_set 63 = .ok (.getfield 36, 3) := by decide +kernel
theorem dX11_set_66 : decode cX11_set 66 = .ok (.iload_n 1, 1) := by decide +kernel
theorem dX11_set_67 : decode cX11_set 67 = .ok (.iload_n 2, 1) := by decide +kernel
theorem dX11_set_68 : decode cX11_set 68 = .ok (.iastore, 1) := by decide +kernel
theorem dX11_set_69 : decode cX11_set 69 = .ok (.aload_n 0, 1) := by decide +kernel
theorem dX11_set_70 : decode cX11_set 70 = .ok (.iconst 4, 1) := by decide +kernel
theorem dX11_set_71 : decode cX11_set 71 = .ok (.iload_n 1, 1) := by decide +kernel
theorem dX11_set_72 : decode cX11_set 72 = .ok (.invokevirtual 436, 3) := by decide +kernel
theorem dX11_set_75 : decode cX11_set 75 = .ok (.iload_n 3, 1) := by decide +kernel
theorem dX11_set_76 : decode cX11_set 76 = .ok (.ireturn, 1) := by decide +kernel
theorem dX11_take_0 : decode cX11_take 0 = .ok (.aload_n 0, 1) := by decide +kernel
theorem dX11_take_1 : decode cX11_take 1 = .ok (.getfield 238, 3) := by decide +kernel
theorem dX11_take_4 : decode cX11_take 4 = .ok (.ifCond .ne 7, 3) := by decide +kernel
theorem dX11_take_7 : decode cX11_take 7 = .ok (.iconst 0, 1) := by decide +kernel
theorem dX11_take_8 : decode cX11_take 8 = .ok (.goto 34, 3) := by decide +kernel
theorem dX11_take_11 : decode cX11_take 11 = .ok (.aload_n 0, 1) := by decide +kernel
theorem dX11_take_12 : decode cX11_take 12 = .ok (.invokevirtual 233, 3) := by decide +kernel
theorem dX11_take_15 : decode cX11_take 15 = .ok (.iconst (-1), 1) := by decide +kernel
theorem dX11_take_16 : decode cX11_take 16 = .ok (.if_icmp .eq 7, 3) := by decide +kernel
theorem dX11_take_19 : decode cX11_take 19 = .ok (.iconst 4, 1) := by decide +kernel
theorem dX11_take_20 : decode cX11_take 20 = .ok (.goto 22, 3) := by decide +kernel
theorem dX11_take_23 : decode cX11_take 23 = .ok (.aload_n 0, 1) := by decide +kernel
theorem dX11_take_24 : decode cX11_take 24 = .ok (.getfield 242, 3) := by decide +kernel
theorem dX11_take_27 : decode cX11_take 27 = .ok (.aload_n 0, 1) := by decide +kernel
theorem dX11_take_28 : decode cX11_take 28 = .ok (.getfield 197, 3) := by decide +kernel
theorem dX11_take_31 : decode cX11_take 31 = .ok (.iadd, 1) := by decide +kernel
theorem dX11_take_32 : decode cX11_take 32 = .ok (.bipush 64, 2) := by decide +kernel
theorem dX11_take_34 : decode cX11_take 34 = .ok (.if_icmp .le 7, 3) := by decide +kernel
theorem dX11_take_37 : decode cX11_take 37 = .ok (.iconst 3, 1) := by decide +kernel
theorem dX11_take_38 : decode cX11_take 38 = .ok (.goto 4, 3) := by decide +kernel
theorem dX11_take_41 : decode cX11_take 41 = .ok (.iconst (-1), 1) := by decide +kernel
theorem dX11_take_42 : decode cX11_take 42 = .ok (.istore_n 1, 1) := by decide +kernel
theorem dX11_take_43 : decode cX11_take 43 = .ok (.aload_n 0, 1) := by decide +kernel
theorem dX11_take_44 : decode cX11_take 44 = .ok (.iload_n 1, 1) := by decide +kernel
theorem dX11_take_45 : decode cX11_take 45 = .ok (.invokevirtual 433, 3) := by decide +kernel
theorem dX11_take_48 : decode cX11_take 48 = .ok (.ifCond .eq 5, 3) := by decide +kernel
theorem dX11_take_51 : decode cX11_take 51 = .ok (.iconst (-1), 1) := by decide +kernel
theorem dX11_take_52 : decode cX11_take 52 = .ok (.ireturn, 1) := by decide +kernel
theorem dX11_take_53 : decode cX11_take 53 = .ok (.aload_n 0, 1) := by decide +kernel
theorem dX11_take_54 : decode cX11_take 54 = .ok (.iconst 0, 1) := by decide +kernel
theorem dX11_take_55 : decode cX11_take 55 = .ok (.putfield 96, 3) := by decide +kernel
theorem dX11_take_58 : decode cX11_take 58 = .ok (.iconst 0, 1) := by decide +kernel
theorem dX11_take_59 : decode cX11_take 59 = .ok (.istore_n 2, 1) := by decide +kernel
theorem dX11_take_60 : decode cX11_take 60 = .ok (.iload_n 2, 1) := by decide +kernel
theorem dX11_take_61 : decode cX11_take 61 = .ok (.aload_n 0, 1) := by decide +kernel
theorem dX11_take_62 : decode cX11_take 62 = .ok (.getfield 197, 3) := by decide +kernel
theorem dX11_take_65 : decode cX11_take 65 = .ok (.if_icmp .ge 26, 3) := by decide +kernel
theorem dX11_take_68 : decode cX11_take 68 = .ok (.aload_n 0, 1) := by decide +kernel
theorem dX11_take_69 : decode cX11_take 69 = .ok (.getfield 33, 3) := by decide +kernel
theorem dX11_take_72 : decode cX11_take 72 = .ok (.aload_n 0, 1) := by decide +kernel
theorem dX11_take_73 : decode cX11_take 73 = .ok (.getfield 242, 3) := by decide +kernel
theorem dX11_take_76 : decode cX11_take 76 = .ok (.iload_n 2, 1) := by decide +kernel
theorem dX11_take_77 : decode cX11_take 77 = .ok (.iadd, 1) := by decide +kernel
theorem dX11_take_78 : decode cX11_take 78 = .ok (.aload_n 0, 1) := by decide +kernel
theorem dX11_take_79 : decode cX11_take 79 = .ok (.getfield 27, 3) := by decide +kernel
theorem dX11_take_82 : decode cX11_take 82 = .ok (.iload_n 2, 1) := by decide +kernel
theorem dX11_take_83 : decode cX11_take 83 = .ok (.laload, 1) := by decide +kernel
theorem dX11_take_84 : decode cX11_take 84 = .ok (.lastore, 1) := by decide +kernel
theorem dX11_take_85 : decode cX11_take 85 = .ok (.iinc 2 1, 3) := by decide +kernel
theorem dX11_take_88 : decode cX11_take 88 = .ok (.goto (-28), 3) := by decide +kernel
theorem dX11_take_91 : decode cX11_take 91 = .ok (.aload_n 0, 1) := by decide +kernel
theorem dX11_take_92 : decode cX11_take 92 = .ok (.dup, 1) := by decide +kernel
theorem dX11_take_93 : decode cX11_take 93 = .ok (.getfield 242, 3) := by decide +kernel
theorem dX11_take_96 : decode cX11_take 96 = .ok (.aload_n 0, 1) := by decide +kernel
theorem dX11_take_97 : decode cX11_take 97 = .ok (.getfield 197, 3) := by decide +kernel
theorem dX11_take_100 : decode cX11_take 100 = .ok (.iadd, 1) := by decide +kernel
theorem dX11_take_101 : decode cX11_take 101 = .ok (.putfield 242, 3) := by decide +kernel
theorem dX11_take_104 : decode cX11_take 104 = .ok (.aload_n 0, 1) := by decide +kernel
theorem dX11_take_105 : decode cX11_take 105 = .ok (.iconst 5, 1) := by decide +kernel
theorem dX11_take_106 : decode cX11_take 106 = .ok (.aload_n 0, 1) := by decide +kernel
theorem dX11_take_107 : decode cX11_take 107 = .ok (.getfield 197, 3) := by decide +kernel
theorem dX11_take_110 : decode cX11_take 110 = .ok (.invokevirtual 436, 3) := by decide +kernel
theorem dX11_take_113 : decode cX11_take 113 = .ok (.aload_n 0, 1) := by decide +kernel
theorem dX11_take_114 : decode cX11_take 114 = .ok (.getfield 197, 3) := by decide +kernel
theorem dX11_take_117 : decode cX11_take 117 = .ok (.ireturn, 1) := by decide +kernel
theorem dX11_status_0 : decode cX11_status 0 = .ok (.iload_n 1, 1) := by decide +kernel
theorem dX11_status_1 : decode cX11_status 1 = .ok (.iconst 0, 1) := by decide +kernel
theorem dX11_status_2 : decode cX11_status 2 = .ok (.iconst 4, 1) := by decide +kernel
theorem dX11_status_3 : decode cX11_status 3 = .ok (.invokestatic 99, 3) := by decide +kernel
theorem dX11_status_6 : decode cX11_status 6 = .ok (.ifCond .eq 12, 3) := by decide +kernel
theorem dX11_status_9 : decode cX11_status 9 = .ok (.aload_n 0, 1) := by decide +kernel
theorem dX11_status_10 : decode cX11_status 10 = .ok (.getfield 42, 3) := by decide +kernel
theorem dX11_status_13 : decode cX11_status 13 = .ok (.iload_n 1, 1) := by decide +kernel
theorem dX11_status_14 : decode cX11_status 14 = .ok (.iaload, 1) := by decide +kernel
theorem dX11_status_15 : decode cX11_status 15 = .ok (.goto 4, 3) := by decide +kernel
theorem dX11_status_18 : decode cX11_status 18 = .ok (.iconst (-1), 1) := by decide +kernel
theorem dX11_status_19 : decode cX11_status 19 = .ok (.ireturn, 1) := by decide +kernel
theorem dX11_undo_0 : decode cX11_undo 0 = .ok (.aload_n 0, 1) := by decide +kernel
theorem dX11_undo_1 : decode cX11_undo 1 = .ok (.getfield 248, 3) := by decide +kernel
theorem dX11_undo_4 : decode cX11_undo 4 = .ok (.ifCond .ne 5, 3) := by decide +kernel
theorem dX11_undo_7 : decode cX11_undo 7 = .ok (.iconst (-1), 1) := by decide +kernel
theorem dX11_undo_8 : decode cX11_undo 8 = .ok (.ireturn, 1) := by decide +kernel
theorem dX11_undo_9 : decode cX11_undo 9 = .ok (.aload_n 0, 1) := by decide +kernel
theorem dX11_undo_10 : decode cX11_undo 10 = .ok (.dup, 1) := by decide +kernel
theorem dX11_undo_11 : decode cX11_undo 11 = .ok (.getfield 248, 3) := by decide +kernel
theorem dX11_undo_14 : decode cX11_undo 14 = .ok (.iconst 1, 1) := by decide +kernel
theorem dX11_undo_15 : decode cX11_undo 15 = .ok (.isub, 1) := by decide +kernel
theorem dX11_undo_16 : decode cX11_undo 16 = .ok (.putfield 248, 3) := by decide +kernel
theorem dX11_undo_19 : decode cX11_undo 19 = .ok (.iconst 0, 1) := by decide +kernel
theorem dX11_undo_20 : decode cX11_undo 20 = .ok (.istore_n 1, 1) := by decide +kernel
theorem dX11_undo_21 : decode cX11_undo 21 = .ok (.iload_n 1, 1) := by decide +kernel
theorem dX11_undo_22 : decode cX11_undo 22 = .ok (.bipush 64, 2) := by decide +kernel
theorem dX11_undo_24 : decode cX11_undo 24 = .ok (.if_icmp .ge 29, 3) := by decide +kernel
theorem dX11_undo_27 : decode cX11_undo 27 = .ok (.aload_n 0, 1) := by decide +kernel
theorem dX11_undo_28 : decode cX11_undo 28 = .ok (.getfield 33, 3) := by decide +kernel
theorem dX11_undo_31 : decode cX11_undo 31 = .ok (.iload_n 1, 1) := by decide +kernel
theorem dX11_undo_32 : decode cX11_undo 32 = .ok (.aload_n 0, 1) := by decide +kernel
theorem dX11_undo_33 : decode cX11_undo 33 = .ok (.getfield 63, 3) := by decide +kernel
theorem dX11_undo_36 : decode cX11_undo 36 = .ok (.bipush 64, 2) := by decide +kernel
theorem dX11_undo_38 : decode cX11_undo 38 = .ok (.aload_n 0, 1) := by decide +kernel
theorem dX11_undo_39 : decode cX11_undo 39 = .ok (.getfield 248, 3) := by decide +kernel
theorem dX11_undo_42 : decode cX11_undo 42 = .ok (.imul, 1) := by decide +kernel
theorem dX11_undo_43 : decode cX11_undo 43 = .ok (.iload_n 1, 1) := by decide +kernel
theorem dX11_undo_44 : decode cX11_undo 44 = .ok (.iadd, 1) := by decide +kernel
theorem dX11_undo_45 : decode cX11_undo 45 = .ok (.laload, 1) := by decide +kernel
theorem dX11_undo_46 : decode cX11_undo 46 = .ok (.lastore, 1) := by decide +kernel
theorem dX11_undo_47 : decode cX11_undo 47 = .ok (.iinc 1 1, 3) := by decide +kernel
theorem dX11_undo_50 : decode cX11_undo 50 = .ok (.goto (-29), 3) := by decide +kernel
theorem dX11_undo_53 : decode cX11_undo 53 = .ok (.iconst 0, 1) := by decide +kernel
theorem dX11_undo_54 : decode cX11_undo 54 = .ok (.istore_n 1, 1) := by decide +kernel
theorem dX11_undo_55 : decode cX11_undo 55 = .ok (.iload_n 1, 1) := by decide +kernel
theorem dX11_undo_56 : decode cX11_undo 56 = .ok (.iconst 5, 1) := by decide +kernel
theorem dX11_undo_57 : decode cX11_undo 57 = .ok (.if_icmp .ge 28, 3) := by decide +kernel
theorem dX11_undo_60 : decode cX11_undo 60 = .ok (.aload_n 0, 1) := by decide +kernel
theorem dX11_undo_61 : decode cX11_undo 61 = .ok (.getfield 36, 3) := by decide +kernel
theorem dX11_undo_64 : decode cX11_undo 64 = .ok (.iload_n 1, 1) := by decide +kernel
theorem dX11_undo_65 : decode cX11_undo 65 = .ok (.aload_n 0, 1) := by decide +kernel
theorem dX11_undo_66 : decode cX11_undo 66 = .ok (.getfield 66, 3) := by decide +kernel
theorem dX11_undo_69 : decode cX11_undo 69 = .ok (.iconst 5, 1) := by decide +kernel
theorem dX11_undo_70 : decode cX11_undo 70 = .ok (.aload_n 0, 1) := by decide +kernel
theorem dX11_undo_71 : decode cX11_undo 71 = .ok (.getfield 248, 3) := by decide +kernel
theorem dX11_undo_74 : decode cX11_undo 74 = .ok (.imul, 1) := by decide +kernel
theorem dX11_undo_75 : decode cX11_undo 75 = .ok (.iload_n 1, 1) := by decide +kernel
theorem dX11_undo_76 : decode cX11_undo 76 = .ok (.iadd, 1) := by decide +kernel
theorem dX11_undo_77 : decode cX11_undo 77 = .ok (.iaload, 1) := by decide +kernel
theorem dX11_undo_78 : decode cX11_undo 78 = .ok (.iastore, 1) := by decide +kernel
theorem dX11_undo_79 : decode cX11_undo 79 = .ok (.iinc 1 1, 3) := by decide +kernel
theorem dX11_undo_82 : decode cX11_undo 82 = .ok (.goto (-27), 3) := by decide +kernel
theorem dX11_undo_85 : decode cX11_undo 85 = .ok (.iconst 0, 1) := by decide +kernel
theorem dX11_undo_86 : decode cX11_undo 86 = .ok (.istore_n 1, 1) := by decide +kernel
theorem dX11_undo_87 : decode cX11_undo 87 = .ok (.iload_n 1, 1) := by decide +kernel
theorem dX11_undo_88 : decode cX11_undo 88 = .ok (.sipush 180, 3) := by decide +kernel
theorem dX11_undo_91 : decode cX11_undo 91 = .ok (.if_icmp .ge 30, 3) := by decide +kernel
theorem dX11_undo_94 : decode cX11_undo 94 = .ok (.aload_n 0, 1) := by decide +kernel
theorem dX11_undo_95 : decode cX11_undo 95 = .ok (.getfield 39, 3) := by decide +kernel
theorem dX11_undo_98 : decode cX11_undo 98 = .ok (.iload_n 1, 1) := by decide +kernel
theorem dX11_undo_99 : decode cX11_undo 99 = .ok (.aload_n 0, 1) := by decide +kernel
theorem dX11_undo_100 : decode cX11_undo 100 = .ok (.getfield 69, 3) := by decide +kernel
theorem dX11_undo_103 : decode cX11_undo 103 = .ok (.sipush 180, 3) := by decide +kernel
theorem dX11_undo_106 : decode cX11_undo 106 = .ok (.aload_n 0, 1) := by decide +kernel
theorem dX11_undo_107 : decode cX11_undo 107 = .ok (.getfield 248, 3) := by decide +kernel
theorem dX11_undo_110 : decode cX11_undo 110 = .ok (.imul, 1) := by decide +kernel
theorem dX11_undo_111 : decode cX11_undo 111 = .ok (.iload_n 1, 1) := by decide +kernel
theorem dX11_undo_112 : decode cX11_undo 112 = .ok (.iadd, 1) := by decide +kernel
theorem dX11_undo_113 : decode cX11_undo 113 = .ok (.iaload, 1) := by decide +kernel
theorem dX11_undo_114 : decode cX11_undo 114 = .ok (.iastore, 1) := by decide +kernel
theorem dX11_undo_115 : decode cX11_undo 115 = .ok (.iinc 1 1, 3) := by decide +kernel
theorem dX11_undo_118 : decode cX11_undo 118 = .ok (.goto (-31), 3) := by decide +kernel
theorem dX11_undo_121 : decode cX11_undo 121 = .ok (.aload_n 0, 1) := by decide +kernel
theorem dX11_undo_122 : decode cX11_undo 122 = .ok (.aload_n 0, 1) := by decide +kernel
theorem dX11_undo_123 : decode cX11_undo 123 = .ok (.getfield 72, 3) := by decide +kernel
theorem dX11_undo_126 : decode cX11_undo 126 = .ok (.aload_n 0, 1) := by decide +kernel
theorem dX11_undo_127 : decode cX11_undo 127 = .ok (.getfield 248, 3) := by decide +kernel
theorem dX11_undo_130 : decode cX11_undo 130 = .ok (.iaload, 1) := by decide +kernel
theorem dX11_undo_131 : decode cX11_undo 131 = .ok (.putfield 242, 3) := by decide +kernel
theorem dX11_undo_134 : decode cX11_undo 134 = .ok (.aload_n 0, 1) := by decide +kernel
theorem dX11_undo_135 : decode cX11_undo 135 = .ok (.aload_n 0, 1) := by decide +kernel
theorem dX11_undo_136 : decode cX11_undo 136 = .ok (.getfield 75, 3) := by decide +kernel
theorem dX11_undo_139 : decode cX11_undo 139 = .ok (.aload_n 0, 1) := by decide +kernel
theorem dX11_undo_140 : decode cX11_undo 140 = .ok (.getfield 248, 3) := by decide +kernel
theorem dX11_undo_143 : decode cX11_undo 143 = .ok (.iaload, 1) := by decide +kernel
theorem dX11_undo_144 : decode cX11_undo 144 = .ok (.putfield 245, 3) := by decide +kernel
theorem dX11_undo_147 : decode cX11_undo 147 = .ok (.aload_n 0, 1) := by decide +kernel
theorem dX11_undo_148 : decode cX11_undo 148 = .ok (.getfield 248, 3) := by decide +kernel
theorem dX11_undo_151 : decode cX11_undo 151 = .ok (.ireturn, 1) := by decide +kernel
theorem dX11_log_0 : decode cX11_log 0 = .ok (.iload_n 1, 1) := by decide +kernel
theorem dX11_log_1 : decode cX11_log 1 = .ok (.iconst 0, 1) := by decide +kernel
theorem dX11_log_2 : decode cX11_log 2 = .ok (.aload_n 0, 1) := by decide +kernel
theorem dX11_log_3 : decode cX11_log 3 = .ok (.getfield 245, 3) := by decide +kernel
theorem dX11_log_6 : decode cX11_log 6 = .ok (.iconst 1, 1) := by decide +kernel
theorem dX11_log_7 : decode cX11_log 7 = .ok (.isub, 1) := by decide +kernel
theorem dX11_log_8 : decode cX11_log 8 = .ok (.invokestatic 99, 3) := by decide +kernel
theorem dX11_log_11 : decode cX11_log 11 = .ok (.ifCond .eq 32, 3) := by decide +kernel
theorem dX11_log_14 : decode cX11_log 14 = .ok (.iload_n 2, 1) := by decide +kernel
theorem dX11_log_15 : decode cX11_log 15 = .ok (.iconst 0, 1) := by decide +kernel
theorem dX11_log_16 : decode cX11_log 16 = .ok (.iconst 2, 1) := by decide +kernel
theorem dX11_log_17 : decode cX11_log 17 = .ok (.invokestatic 99, 3) := by decide +kernel
theorem dX11_log_20 : decode cX11_log 20 = .ok (.ifCond .eq 23, 3) := by decide +kernel
theorem dX11_log_23 : decode cX11_log 23 = .ok (.aload_n 0, 1) := by decide +kernel
theorem dX11_log_24 : decode cX11_log 24 = .ok (.getfield 39, 3) := by decide +kernel
theorem dX11_log_27 : decode cX11_log 27 = .ok (.iconst 3, 1) := by decide +kernel
theorem dX11_log_28 : decode cX11_log 28 = .ok (.aload_n 0, 1) := by decide +kernel
theorem dX11_log_29 : decode cX11_log 29 = .ok (.getfield 245, 3) := by decide +kernel
theorem dX11_log_32 : decode cX11_log 32 = .ok (.iconst 1, 1) := by decide +kernel
theorem dX11_log_33 : decode cX11_log 33 = .ok (.isub, 1) := by decide +kernel
theorem dX11_log_34 : decode cX11_log 34 = .ok (.iload_n 1, 1) := by decide +kernel
theorem dX11_log_35 : decode cX11_log 35 = .ok (.isub, 1) := by decide +kernel
theorem dX11_log_36 : decode cX11_log 36 = .ok (.imul, 1) := by decide +kernel
theorem dX11_log_37 : decode cX11_log 37 = .ok (.iload_n 2, 1) := by decide +kernel
theorem dX11_log_38 : decode cX11_log 38 = .ok (.iadd, 1) := by decide +kernel
theorem dX11_log_39 : decode cX11_log 39 = .ok (.iaload, 1) := by decide +kernel
theorem dX11_log_40 : decode cX11_log 40 = .ok (.goto 6, 3) := by decide +kernel
theorem dX11_log_43 : decode cX11_log 43 = .ok (.ldc_w 382, 3) := by decide +kernel
theorem dX11_log_46 : decode cX11_log 46 = .ok (.ireturn, 1) := by decide +kernel
theorem dX11_timesOf_0 : decode cX11_timesOf 0 = .ok (.iconst 0, 1) := by decide +kernel
theorem dX11_timesOf_1 : decode cX11_timesOf 1 = .ok (.istore_n 3, 1) := by decide +kernel
theorem dX11_timesOf_2 : decode cX11_timesOf 2 = .ok (.iconst 0, 1) := by decide +kernel
theorem dX11_timesOf_3 : decode cX11_timesOf 3 = .ok (.istore 4, 2) := by decide +kernel
theorem dX11_timesOf_5 : decode cX11_timesOf 5 = .ok (.iload 4, 2) := by decide +kernel
theorem dX11_timesOf_7 : decode cX11_timesOf 7 = .ok (.aload_n 0, 1) := by decide +kernel
theorem dX11_timesOf_8 : decode cX11_timesOf 8 = .ok (.getfield 242, 3) := by decide +kernel
theorem dX11_timesOf_11 : decode cX11_timesOf 11 = .ok (.if_icmp .ge 29, 3) := by decide +kernel
theorem dX11_timesOf_14 : decode cX11_timesOf 14 = .ok (.iload_n 3, 1) := by decide +kernel
theorem dX11_timesOf_15 : decode cX11_timesOf 15 = .ok (.aload_n 0, 1) := by decide +kernel
theorem dX11_timesOf_16 : decode cX11_timesOf 16 = .ok (.getfield 33, 3) := by decide +kernel
theorem dX11_timesOf_19 : decode cX11_timesOf 19 = .ok (.iload 4, 2) := by decide +kernel
theorem dX11_timesOf_21 : decode cX11_timesOf 21 = .ok (.laload, 1) := by decide +kernel
theorem dX11_timesOf_22 : decode cX11_timesOf 22 = .ok (.lload_n 1, 1) := by decide +kernel
theorem dX11_timesOf_23 : decode cX11_timesOf 23 = .ok (.lcmp, 1) := by decide +kernel
theorem dX11_timesOf_24 : decode cX11_timesOf 24 = .ok (.ifCond .ne 7, 3) := by decide +kernel
theorem dX11_timesOf_27 : decode cX11_timesOf 27 = .ok (.iconst 1, 1) := by decide +kernel
theorem dX11_timesOf_28 : decode cX11_timesOf 28 = .ok (.goto 4, 3) := by decide +kernel
theorem dX11_timesOf_31 : decode cX11_timesOf 31 = .ok (.iconst 0, 1) := by decide +kernel
theorem dX11_timesOf_32 : decode cX11_timesOf 32 = .ok (.iadd, 1) := by decide +kernel
theorem dX11_timesOf_33 : decode cX11_timesOf 33 = .ok (.istore_n 3, 1) := by decide +kernel
theorem dX11_timesOf_34 : decode cX11_timesOf 34 = .ok (.iinc 4 1, 3) := by decide +kernel
theorem dX11_timesOf_37 : decode cX11_timesOf 37 = .ok (.goto (-32), 3) := by decide +kernel
theorem dX11_timesOf_40 : decode cX11_timesOf 40 = .ok (.iload_n 3, 1) := by decide +kernel
theorem dX11_timesOf_41 : decode cX11_timesOf 41 = .ok (.ireturn, 1) := by decide +kernel
theorem dX11_common_0 : decode cX11_common 0 = .ok (.aload_n 0, 1) := by decide +kernel
theorem dX11_common_1 : decode cX11_common 1 = .ok (.getfield 238, 3) := by decide +kernel
theorem dX11_common_4 : decode cX11_common 4 = .ok (.ifCond .eq 19, 3) := by decide +kernel
theorem dX11_common_7 : decode cX11_common 7 = .ok (.aload_n 0, 1) := by decide +kernel
theorem dX11_common_8 : decode cX11_common 8 = .ok (.getfield 242, 3) := by decide +kernel
theorem dX11_common_11 : decode cX11_common 11 = .ok (.ifCond .eq 12, 3) := by decide +kernel
theorem dX11_common_14 : decode cX11_common 14 = .ok (.iload_n 1, 1) := by decide +kernel
theorem dX11_common_15 : decode cX11_common 15 = .ok (.iconst 0, 1) := by decide +kernel
theorem dX11_common_16 : decode cX11_common 16 = .ok (.iconst 1, 1) := by decide +kernel
theorem dX11_common_17 : decode cX11_common 17 = .ok (.invokestatic 99, 3) := by decide +kernel
theorem dX11_common_20 : decode cX11_common 20 = .ok (.ifCond .ne 7, 3) := by decide +kernel
theorem dX11_common_23 : decode cX11_common 23 = .ok (.ldc2_w 236, 3) := by decide +kernel
theorem dX11_common_26 : decode cX11_common 26 = .ok (.lreturn, 1) := by decide +kernel
theorem dX11_common_27 : decode cX11_common 27 = .ok (.iconst 0, 1) := by decide +kernel
theorem dX11_common_28 : decode cX11_common 28 = .ok (.istore_n 2, 1) := by decide +kernel
theorem dX11_common_29 : decode cX11_common 29 = .ok (.iconst 1, 1) := by decide +kernel
theorem dX11_common_30 : decode cX11_common 30 = .ok (.istore_n 3, 1) := by decide +kernel
theorem dX11_common_31 : decode cX11_common 31 = .ok (.iload_n 3, 1) := by decide +kernel
theorem dX11_common_32 : decode cX11_common 32 = .ok (.aload_n 0, 1) := by decide +kernel
theorem dX11_common_33 : decode cX11_common 33 = .ok (.getfield 242, 3) := by decide +kernel
theorem dX11_common_36 : decode cX11_common 36 = .ok (.if_icmp .ge 38, 3) := by decide +kernel
theorem dX11_common_39 : decode cX11_common 39 = .ok (.aload_n 0, 1) := by decide +kernel
theorem dX11_common_40 : decode cX11_common 40 = .ok (.aload_n 0, 1) := by decide +kernel
theorem dX11_common_41 : decode cX11_common 41 = .ok (.getfield 33, 3) := by decide +kernel
theorem dX11_common_44 : decode cX11_common 44 = .ok (.iload_n 3, 1) := by decide +kernel
theorem dX11_common_45 : decode cX11_common 45 = .ok (.laload, 1) := by decide +kernel
theorem dX11_common_46 : decode cX11_common 46 = .ok (.invokevirtual 442, 3) := by decide +kernel
theorem dX11_common_49 : decode cX11_common 49 = .ok (.aload_n 0, 1) := by decide +kernel
theorem dX11_common_50 : decode cX11_common 50 = .ok (.aload_n 0, 1) := by decide +kernel
theorem dX11_common_51 : decode cX11_common 51 = .ok (.getfield 33, 3) := by decide +kernel
theorem dX11_common_54 : decode cX11_common 54 = .ok (.iload_n 2, 1) := by decide +kernel
theorem dX11_common_55 : decode cX11_common 55 = .ok (.laload, 1) := by decide +kernel
theorem dX11_common_56 : decode cX11_common 56 = .ok (.invokevirtual 442, 3) := by decide +kernel
theorem dX11_common_59 : decode cX11_common 59 = .ok (.if_icmp .le 7, 3) := by decide +kernel
theorem dX11_common_62 : decode cX11_common 62 = .ok (.iload_n 3, 1) := by decide +kernel
theorem dX11_common_63 : decode cX11_common 63 = .ok (.goto 4, 3) := by decide +kernel
theorem dX11_common_66 : decode cX11_common 66 = .ok (.iload_n 2, 1) := by decide +kernel
theorem dX11_common_67 : decode cX11_common 67 = .ok (.istore_n 2, 1) := by decide +kernel
theorem dX11_common_68 : decode cX11_common 68 = .ok (.iinc 3 1, 3) := by decide +kernel
theorem dX11_common_71 : decode cX11_common 71 = .ok (.goto (-40), 3) := by decide +kernel
theorem dX11_common_74 : decode cX11_common 74 = .ok (.iload_n 1, 1) := by decide +kernel
theorem dX11_common_75 : decode cX11_common 75 = .ok (.ifCond .ne 12, 3) := by decide +kernel
theorem dX11_common_78 : decode cX11_common 78 = .ok (.aload_n 0, 1) := by decide +kernel
theorem dX11_common_79 : decode cX11_common 79 = .ok (.getfield 33, 3) := by decide +kernel
theorem dX11_common_82 : decode cX11_common 82 = .ok (.iload_n 2, 1) := by decide +kernel
theorem dX11_common_83 : decode cX11_common 83 = .ok (.laload, 1) := by decide +kernel
theorem dX11_common_84 : decode cX11_common 84 = .ok (.goto 14, 3) := by decide +kernel
theorem dX11_common_87 : decode cX11_common 87 = .ok (.aload_n 0, 1) := by decide +kernel
theorem dX11_common_88 : decode cX11_common 88 = .ok (.aload_n 0, 1) := by decide +kernel
theorem dX11_common_89 : decode cX11_common 89 = .ok (.getfield 33, 3) := by decide +kernel
theorem dX11_common_92 : decode cX11_common 92 = .ok (.iload_n 2, 1) := by decide +kernel
theorem dX11_common_93 : decode cX11_common 93 = .ok (.laload, 1) := by decide +kernel
theorem dX11_common_94 : decode cX11_common 94 = .ok (.invokevirtual 442, 3) := by decide +kernel
theorem dX11_common_97 : decode cX11_common 97 = .ok (.i2l, 1) := by decide +kernel
theorem dX11_common_98 : decode cX11_common 98 = .ok (.lreturn, 1) := by decide +kernel
theorem dX11_sumInOrder_0 : decode cX11_sumInOrder 0 = .ok (.dconst 0, 1) := by decide +kernel
theorem dX11_sumInOrder_1 : decode cX11_sumInOrder 1 = .ok (.dstore_n 1, 1) := by decide +kernel
theorem dX11_sumInOrder_2 : decode cX11_sumInOrder 2 = .ok (.iconst 0, 1) := by decide +kernel
theorem dX11_sumInOrder_3 : decode cX11_sumInOrder 3 = .ok (.istore_n 3, 1) := by decide +kernel
theorem dX11_sumInOrder_4 : decode cX11_sumInOrder 4 = .ok (.iload_n 3, 1) := by decide +kernel
theorem dX11_sumInOrder_5 : decode cX11_sumInOrder 5 = .ok (.aload_n 0, 1) := by decide +kernel
theorem dX11_sumInOrder_6 : decode cX11_sumInOrder 6 = .ok (.getfield 242, 3) := by decide +kernel
theorem dX11_sumInOrder_9 : decode cX11_sumInOrder 9 = .ok (.if_icmp .ge 33, 3) := by decide +kernel
theorem dX11_sumInOrder_12 : decode cX11_sumInOrder 12 = .ok (.aload_n 0, 1) := by decide +kernel
theorem dX11_sumInOrder_13 : decode cX11_sumInOrder 13 = .ok (.getfield 33, 3) := by decide +kernel
theorem dX11_sumInOrder_16 : decode cX11_sumInOrder 16 = .ok (.iload_n 3, 1) := by decide +kernel
theorem dX11_sumInOrder_17 : decode cX11_sumInOrder 17 = .ok (.laload, 1) := by decide +kernel
theorem dX11_sumInOrder_18 : decode cX11_sumInOrder 18 = .ok (.invokestatic 260, 3) := by decide +kernel
theorem dX11_sumInOrder_21 : decode cX11_sumInOrder 21 = .ok (.ifCond .eq 15, 3) := by decide +kernel
theorem dX11_sumInOrder_24 : decode cX11_sumInOrder 24 = .ok (.dload_n 1, 1) := by decide +kernel
theorem dX11_sumInOrder_25 : decode cX11_sumInOrder 25 = .ok (.aload_n 0, 1) := by decide +kernel
theorem dX11_sumInOrder_26 : decode cX11_sumInOrder 26 = .ok (.getfield 33, 3) := by decide +kernel
theorem dX11_sumInOrder_29 : decode cX11_sumInOrder 29 = .ok (.iload_n 3, 1) := by decide +kernel
theorem dX11_sumInOrder_30 : decode cX11_sumInOrder 30 = .ok (.laload, 1) := by decide +kernel
theorem dX11_sumInOrder_31 : decode cX11_sumInOrder 31 = .ok (.invokestatic 264, 3) := by decide +kernel
theorem dX11_sumInOrder_34 : decode cX11_sumInOrder 34 = .ok (.dadd, 1) := by decide +kernel
theorem dX11_sumInOrder_35 : decode cX11_sumInOrder 35 = .ok (.dstore_n 1, 1) := by decide +kernel
theorem dX11_sumInOrder_36 : decode cX11_sumInOrder 36 = .ok (.iinc 3 1, 3) := by decide +kernel
theorem dX11_sumInOrder_39 : decode cX11_sumInOrder 39 = .ok (.goto (-35), 3) := by decide +kernel
theorem dX11_sumInOrder_42 : decode cX11_sumInOrder 42 = .ok (.dload_n 1, 1) := by decide +kernel
theorem dX11_sumInOrder_43 : decode cX11_sumInOrder 43 = .ok (.dreturn, 1) := by decide +kernel
theorem dX11_sumByPairs_0 : decode cX11_sumByPairs 0 = .ok (.iconst 0, 1) := by decide +kernel
theorem dX11_sumByPairs_1 : decode cX11_sumByPairs 1 = .ok (.istore_n 1, 1) := by decide +kernel
theorem dX11_sumByPairs_2 : decode cX11_sumByPairs 2 = .ok (.iconst 0, 1) := by decide +kernel
theorem dX11_sumByPairs_3 : decode cX11_sumByPairs 3 = .ok (.istore_n 2, 1) := by decide +kernel
theorem dX11_sumByPairs_4 : decode cX11_sumByPairs 4 = .ok (.iload_n 2, 1) := by decide +kernel
theorem dX11_sumByPairs_5 : decode cX11_sumByPairs 5 = .ok (.aload_n 0, 1) := by decide +kernel
theorem dX11_sumByPairs_6 : decode cX11_sumByPairs 6 = .ok (.getfield 242, 3) := by decide +kernel
theorem dX11_sumByPairs_9 : decode cX11_sumByPairs 9 = .ok (.if_icmp .ge 39, 3) := by decide +kernel
theorem dX11_sumByPairs_12 : decode cX11_sumByPairs 12 = .ok (.aload_n 0, 1) := by decide +kernel
theorem dX11_sumByPairs_13 : decode cX11_sumByPairs 13 = .ok (.getfield 33, 3) := by decide +kernel
theorem dX11_sumByPairs_16 : decode cX11_sumByPairs 16 = .ok (.iload_n 2, 1) := by decide +kernel
theorem dX11_sumByPairs_17 : decode cX11_sumByPairs 17 = .ok (.laload, 1) := by decide +kernel
theorem dX11_sumByPairs_18 : decode cX11_sumByPairs 18 = .ok (.invokestatic 260, 3) := by decide +kernel
theorem dX11_sumByPairs_21 : decode cX11_sumByPairs 21 = .ok (.ifCond .eq 21, 3) := by decide +kernel
theorem dX11_sumByPairs_24 : decode cX11_sumByPairs 24 = .ok (.aload_n 0, 1) := by decide +kernel
theorem dX11_sumByPairs_25 : decode cX11_sumByPairs 25 = .ok (.getfield 78, 3) := by decide +kernel
theorem dX11_sumByPairs_28 : decode cX11_sumByPairs 28 = .ok (.iload_n 1, 1) := by decide +kernel
theorem dX11_sumByPairs_29 : decode cX11_sumByPairs 29 = .ok (.aload_n 0, 1) := by decide +kernel
theorem dX11_sumByPairs_30 : decode cX11_sumByPairs 30 = .ok (.getfield 33, 3) := by decide +kernel
theorem dX11_sumByPairs_33 : decode cX11_sumByPairs 33 = .ok (.iload_n 2, 1) := by decide +kernel
theorem dX11_sumByPairs_34 : decode cX11_sumByPairs 34 = .ok (.laload, 1) := by decide +kernel
theorem dX11_sumByPairs_35 : decode cX11_sumByPairs 35 = .ok (.invokestatic 264, 3) := by decide +kernel
theorem dX11_sumByPairs_38 : decode cX11_sumByPairs 38 = .ok (.dastore, 1) := by decide +kernel
theorem dX11_sumByPairs_39 : decode cX11_sumByPairs 39 = .ok (.iinc 1 1, 3) := by decide +kernel
theorem dX11_sumByPairs_42 : decode cX11_sumByPairs 42 = .ok (.iinc 2 1, 3) := by decide +kernel
theorem dX11_sumByPairs_45 : decode cX11_sumByPairs 45 = .ok (.goto (-41), 3) := by decide +kernel
theorem dX11_sumByPairs_48 : decode cX11_sumByPairs 48 = .ok (.iload_n 1, 1) := by decide +kernel
theorem dX11_sumByPairs_49 : decode cX11_sumByPairs 49 = .ok (.istore_n 2, 1) := by decide +kernel
theorem dX11_sumByPairs_50 : decode cX11_sumByPairs 50 = .ok (.iload_n 2, 1) := by decide +kernel
theorem dX11_sumByPairs_51 : decode cX11_sumByPairs 51 = .ok (.iconst 1, 1) := by decide +kernel
theorem dX11_sumByPairs_52 : decode cX11_sumByPairs 52 = .ok (.if_icmp .le 75, 3) := by decide +kernel
theorem dX11_sumByPairs_55 : decode cX11_sumByPairs 55 = .ok (.iconst 0, 1) := by decide +kernel
theorem dX11_sumByPairs_56 : decode cX11_sumByPairs 56 = .ok (.istore_n 3, 1) := by decide +kernel
theorem dX11_sumByPairs_57 : decode cX11_sumByPairs 57 = .ok (.iload_n 3, 1) := by decide +kernel
theorem dX11_sumByPairs_58 : decode cX11_sumByPairs 58 = .ok (.iload_n 2, 1) := by decide +kernel
theorem dX11_sumByPairs_59 : decode cX11_sumByPairs 59 = .ok (.iconst 2, 1) := by decide +kernel
theorem dX11_sumByPairs_60 : decode cX11_sumByPairs 60 = .ok (.idiv, 1) := by decide +kernel
theorem dX11_sumByPairs_61 : decode cX11_sumByPairs 61 = .ok (.if_icmp .ge 34, 3) := by decide +kernel
theorem dX11_sumByPairs_64 : decode cX11_sumByPairs 64 = .ok (.aload_n 0, 1) := by decide +kernel
theorem dX11_sumByPairs_65 : decode cX11_sumByPairs 65 = .ok (.getfield 78, 3) := by decide +kernel
theorem dX11_sumByPairs_68 : decode cX11_sumByPairs 68 = .ok (.iload_n 3, 1) := by decide +kernel
theorem dX11_sumByPairs_69 : decode cX11_sumByPairs 69 = .ok (.aload_n 0, 1) := by decide +kernel
theorem dX11_sumByPairs_70 : decode cX11_sumByPairs 70 = .ok (.getfield 78, 3) := by decide +kernel
theorem dX11_sumByPairs_73 : decode cX11_sumByPairs 73 = .ok (.iconst 2, 1) := by decide +kernel
theorem dX11_sumByPairs_74 : decode cX11_sumByPairs 74 = .ok (.iload_n 3, 1) := by decide +kernel
theorem dX11_sumByPairs_75 : decode cX11_sumByPairs 75 = .ok (.imul, 1) := by decide +kernel
theorem dX11_sumByPairs_76 : decode cX11_sumByPairs 76 = .ok (.daload, 1) := by decide +kernel
theorem dX11_sumByPairs_77 : decode cX11_sumByPairs 77 = .ok (.aload_n 0, 1) := by decide +kernel
theorem dX11_sumByPairs_78 : decode cX11_sumByPairs 78 = .ok (.getfield 78, 3) := by decide +kernel
theorem dX11_sumByPairs_81 : decode cX11_sumByPairs 81 = .ok (.iconst 2, 1) := by decide +kernel
theorem dX11_sumByPairs_82 : decode cX11_sumByPairs 82 = .ok (.iload_n 3, 1) := by decide +kernel
theorem dX11_sumByPairs_83 : decode cX11_sumByPairs 83 = .ok (.imul, 1) := by decide +kernel
theorem dX11_sumByPairs_84 : decode cX11_sumByPairs 84 = .ok (.iconst 1, 1) := by decide +kernel
theorem dX11_sumByPairs_85 : decode cX11_sumByPairs 85 = .ok (.iadd, 1) := by decide +kernel
theorem dX11_sumByPairs_86 : decode cX11_sumByPairs 86 = .ok (.daload, 1) := by decide +kernel
theorem dX11_sumByPairs_87 : decode cX11_sumByPairs 87 = .ok (.dadd, 1) := by decide +kernel
theorem dX11_sumByPairs_88 : decode cX11_sumByPairs 88 = .ok (.dastore, 1) := by decide +kernel
theorem dX11_sumByPairs_89 : decode cX11_sumByPairs 89 = .ok (.iinc 3 1, 3) := by decide +kernel
theorem dX11_sumByPairs_92 : decode cX11_sumByPairs 92 = .ok (.goto (-35), 3) := by decide +kernel
theorem dX11_sumByPairs_95 : decode cX11_sumByPairs 95 = .ok (.iload_n 2, 1) := by decide +kernel
theorem dX11_sumByPairs_96 : decode cX11_sumByPairs 96 = .ok (.iconst 2, 1) := by decide +kernel
theorem dX11_sumByPairs_97 : decode cX11_sumByPairs 97 = .ok (.irem, 1) := by decide +kernel
theorem dX11_sumByPairs_98 : decode cX11_sumByPairs 98 = .ok (.iconst 1, 1) := by decide +kernel
theorem dX11_sumByPairs_99 : decode cX11_sumByPairs 99 = .ok (.if_icmp .ne 19, 3) := by decide +kernel
theorem dX11_sumByPairs_102 : decode cX11_sumByPairs 102 = .ok (.aload_n 0, 1) := by decide +kernel
theorem dX11_sumByPairs_103 : decode cX11_sumByPairs 103 = .ok (.getfield 78, 3) := by decide +kernel
theorem dX11_sumByPairs_106 : decode cX11_sumByPairs 106 = .ok (.iload_n 2, 1) := by decide +kernel
theorem dX11_sumByPairs_107 : decode cX11_sumByPairs 107 = .ok (.iconst 2, 1) := by decide +kernel
theorem dX11_sumByPairs_108 : decode cX11_sumByPairs 108 = .ok (.idiv, 1) := by decide +kernel
theorem dX11_sumByPairs_109 : decode cX11_sumByPairs 109 = .ok (.aload_n 0, 1) := by decide +kernel
theorem dX11_sumByPairs_110 : decode cX11_sumByPairs 110 = .ok (.getfield 78, 3) := by decide +kernel
theorem dX11_sumByPairs_113 : decode cX11_sumByPairs 113 = .ok (.iload_n 2, 1) := by decide +kernel
theorem dX11_sumByPairs_114 : decode cX11_sumByPairs 114 = .ok (.iconst 1, 1) := by decide +kernel
theorem dX11_sumByPairs_115 : decode cX11_sumByPairs 115 = .ok (.isub, 1) := by decide +kernel
theorem dX11_sumByPairs_116 : decode cX11_sumByPairs 116 = .ok (.daload, 1) := by decide +kernel
theorem dX11_sumByPairs_117 : decode cX11_sumByPairs 117 = .ok (.dastore, 1) := by decide +kernel
theorem dX11_sumByPairs_118 : decode cX11_sumByPairs 118 = .ok (.iload_n 2, 1) := by decide +kernel
theorem dX11_sumByPairs_119 : decode cX11_sumByPairs 119 = .ok (.iconst 1, 1) := by decide +kernel
theorem dX11_sumByPairs_120 : decode cX11_sumByPairs 120 = .ok (.iadd, 1) := by decide +kernel
theorem dX11_sumByPairs_121 : decode cX11_sumByPairs 121 = .ok (.iconst 2, 1) := by decide +kernel
theorem dX11_sumByPairs_122 : decode cX11_sumByPairs 122 = .ok (.idiv, 1) := by decide +kernel
theorem dX11_sumByPairs_123 : decode cX11_sumByPairs 123 = .ok (.istore_n 2, 1) := by decide +kernel
theorem dX11_sumByPairs_124 : decode cX11_sumByPairs 124 = .ok (.goto (-74), 3) := by decide +kernel
theorem dX11_sumByPairs_127 : decode cX11_sumByPairs 127 = .ok (.iload_n 1, 1) := by decide +kernel
theorem dX11_sumByPairs_128 : decode cX11_sumByPairs 128 = .ok (.ifCond .ne 7, 3) := by decide +kernel
theorem dX11_sumByPairs_131 : decode cX11_sumByPairs 131 = .ok (.dconst 0, 1) := by decide +kernel
theorem dX11_sumByPairs_132 : decode cX11_sumByPairs 132 = .ok (.goto 9, 3) := by decide +kernel
theorem dX11_sumByPairs_135 : decode cX11_sumByPairs 135 = .ok (.aload_n 0, 1) := by decide +kernel
theorem dX11_sumByPairs_136 : decode cX11_sumByPairs 136 = .ok (.getfield 78, 3) := by decide +kernel
theorem dX11_sumByPairs_139 : decode cX11_sumByPairs 139 = .ok (.iconst 0, 1) := by decide +kernel
theorem dX11_sumByPairs_140 : decode cX11_sumByPairs 140 = .ok (.daload, 1) := by decide +kernel
theorem dX11_sumByPairs_141 : decode cX11_sumByPairs 141 = .ok (.dreturn, 1) := by decide +kernel
theorem dX11_sum_0 : decode cX11_sum 0 = .ok (.aload_n 0, 1) := by decide +kernel
theorem dX11_sum_1 : decode cX11_sum 1 = .ok (.getfield 238, 3) := by decide +kernel
theorem dX11_sum_4 : decode cX11_sum 4 = .ok (.ifCond .eq 33, 3) := by decide +kernel
theorem dX11_sum_7 : decode cX11_sum 7 = .ok (.iload_n 1, 1) := by decide +kernel
theorem dX11_sum_8 : decode cX11_sum 8 = .ok (.iconst 0, 1) := by decide +kernel
theorem dX11_sum_9 : decode cX11_sum 9 = .ok (.iconst 1, 1) := by decide +kernel
theorem dX11_sum_10 : decode cX11_sum 10 = .ok (.invokestatic 99, 3) := by decide +kernel
theorem dX11_sum_13 : decode cX11_sum 13 = .ok (.ifCond .eq 24, 3) := by decide +kernel
theorem dX11_sum_16 : decode cX11_sum 16 = .ok (.iload_n 1, 1) := by decide +kernel
theorem dX11_sum_17 : decode cX11_sum 17 = .ok (.ifCond .ne 10, 3) := by decide +kernel
theorem dX11_sum_20 : decode cX11_sum 20 = .ok (.aload_n 0, 1) := by decide +kernel
theorem dX11_sum_21 : decode cX11_sum 21 = .ok (.invokevirtual 445, 3) := by decide +kernel
theorem dX11_sum_24 : decode cX11_sum 24 = .ok (.goto 7, 3) := by decide +kernel
theorem dX11_sum_27 : decode cX11_sum 27 = .ok (.aload_n 0, 1) := by decide +kernel
theorem dX11_sum_28 : decode cX11_sum 28 = .ok (.invokevirtual 449, 3) := by decide +kernel
theorem dX11_sum_31 : decode cX11_sum 31 = .ok (.invokestatic 153, 3) := by decide +kernel
theorem dX11_sum_34 : decode cX11_sum 34 = .ok (.goto 6, 3) := by decide +kernel
theorem dX11_sum_37 : decode cX11_sum 37 = .ok (.ldc2_w 236, 3) := by decide +kernel
theorem dX11_sum_40 : decode cX11_sum 40 = .ok (.lreturn, 1) := by decide +kernel
theorem dX11_costBy_0 : decode cX11_costBy 0 = .ok (.aload_n 0, 1) := by decide +kernel
theorem dX11_costBy_1 : decode cX11_costBy 1 = .ok (.getfield 36, 3) := by decide +kernel
theorem dX11_costBy_4 : decode cX11_costBy 4 = .ok (.iload_n 1, 1) := by decide +kernel
theorem dX11_costBy_5 : decode cX11_costBy 5 = .ok (.iaload, 1) := by decide +kernel
theorem dX11_costBy_6 : decode cX11_costBy 6 = .ok (.istore_n 3, 1) := by decide +kernel
theorem dX11_costBy_7 : decode cX11_costBy 7 = .ok (.aload_n 0, 1) := by decide +kernel
theorem dX11_costBy_8 : decode cX11_costBy 8 = .ok (.getfield 36, 3) := by decide +kernel
theorem dX11_costBy_11 : decode cX11_costBy 11 = .ok (.iload_n 1, 1) := by decide +kernel
theorem dX11_costBy_12 : decode cX11_costBy 12 = .ok (.iload_n 2, 1) := by decide +kernel
theorem dX11_costBy_13 : decode cX11_costBy 13 = .ok (.iastore, 1) := by decide +kernel
theorem dX11_costBy_14 : decode cX11_costBy 14 = .ok (.aload_n 0, 1) := by decide +kernel
theorem dX11_costBy_15 : decode cX11_costBy 15 = .ok (.invokevirtual 452, 3) := by decide +kernel
theorem dX11_costBy_18 : decode cX11_costBy 18 = .ok (.istore 4, 2) := by decide +kernel
theorem dX11_costBy_20 : decode cX11_costBy 20 = .ok (.aload_n 0, 1) := by decide +kernel
theorem dX11_costBy_21 : decode cX11_costBy 21 = .ok (.getfield 36, 3) := by decide +kernel
theorem dX11_costBy_24 : decode cX11_costBy 24 = .ok (.iload_n 1, 1) := by decide +kernel
theorem dX11_costBy_25 : decode cX11_costBy 25 = .ok (.iload_n 3, 1) := by decide +kernel
theorem dX11_costBy_26 : decode cX11_costBy 26 = .ok (.iastore, 1) := by decide +kernel
theorem dX11_costBy_27 : decode cX11_costBy 27 = .ok (.iload 4, 2) := by decide +kernel
theorem dX11_costBy_29 : decode cX11_costBy 29 = .ok (.ireturn, 1) := by decide +kernel
theorem dX11_saved_0 : decode cX11_saved 0 = .ok (.aload_n 0, 1) := by decide +kernel
theorem dX11_saved_1 : decode cX11_saved 1 = .ok (.iload_n 1, 1) := by decide +kernel
theorem dX11_saved_2 : decode cX11_saved 2 = .ok (.invokevirtual 439, 3) := by decide +kernel
theorem dX11_saved_5 : decode cX11_saved 5 = .ok (.ifCond .eq 32, 3) := by decide +kernel
theorem dX11_saved_8 : decode cX11_saved 8 = .ok (.iload_n 2, 1) := by decide +kernel
theorem dX11_saved_9 : decode cX11_saved 9 = .ok (.iload_n 1, 1) := by decide +kernel
theorem dX11_saved_10 : decode cX11_saved 10 = .ok (.invokestatic 131, 3) := by decide +kernel
theorem dX11_saved_13 : decode cX11_saved 13 = .ok (.iload_n 1, 1) := by decide +kernel
theorem dX11_saved_14 : decode cX11_saved 14 = .ok (.invokestatic 134, 3) := by decide +kernel
theorem dX11_saved_17 : decode cX11_saved 17 = .ok (.invokestatic 99, 3) := by decide +kernel
theorem dX11_saved_20 : decode cX11_saved 20 = .ok (.ifCond .eq 17, 3) := by decide +kernel
theorem dX11_saved_23 : decode cX11_saved 23 = .ok (.aload_n 0, 1) := by decide +kernel
theorem dX11_saved_24 : decode cX11_saved 24 = .ok (.invokevirtual 452, 3) := by decide +kernel
theorem dX11_saved_27 : decode cX11_saved 27 = .ok (.aload_n 0, 1) := by decide +kernel
theorem dX11_saved_28 : decode cX11_saved 28 = .ok (.iload_n 1, 1) := by decide +kernel
theorem dX11_saved_29 : decode cX11_saved 29 = .ok (.iload_n 2, 1) := by decide +kernel
theorem dX11_saved_30 : decode cX11_saved 30 = .ok (.invokevirtual 455, 3) := by decide +kernel
theorem dX11_saved_33 : decode cX11_saved 33 = .ok (.isub, 1) := by decide +kernel
theorem dX11_saved_34 : decode cX11_saved 34 = .ok (.goto 6, 3) := by decide +kernel
theorem dX11_saved_37 : decode cX11_saved 37 = .ok (.ldc_w 382, 3) := by decide +kernel
theorem dX11_saved_40 : decode cX11_saved 40 = .ok (.ireturn, 1) := by decide +kernel
theorem dX11_best_0 : decode cX11_best 0 = .ok (.aload_n 0, 1) := by decide +kernel
theorem dX11_best_1 : decode cX11_best 1 = .ok (.iload_n 1, 1) := by decide +kernel
theorem dX11_best_2 : decode cX11_best 2 = .ok (.invokevirtual 439, 3) := by decide +kernel
theorem dX11_best_5 : decode cX11_best 5 = .ok (.ifCond .ne 5, 3) := by decide +kernel
theorem dX11_best_8 : decode cX11_best 8 = .ok (.iconst (-1), 1) := by decide +kernel
theorem dX11_best_9 : decode cX11_best 9 = .ok (.ireturn, 1) := by decide +kernel
theorem dX11_best_10 : decode cX11_best 10 = .ok (.iconst (-1), 1) := by decide +kernel
theorem dX11_best_11 : decode cX11_best 11 = .ok (.istore_n 2, 1) := by decide +kernel
theorem dX11_best_12 : decode cX11_best 12 = .ok (.iconst 0, 1) := by decide +kernel
theorem dX11_best_13 : decode cX11_best 13 = .ok (.istore_n 3, 1) := by decide +kernel
theorem dX11_best_14 : decode cX11_best 14 = .ok (.iload_n 1, 1) := by decide +kernel
theorem dX11_best_15 : decode cX11_best 15 = .ok (.invokestatic 131, 3) := by decide +kernel
theorem dX11_best_18 : decode cX11_best 18 = .ok (.istore 4, 2) := by decide +kernel
theorem dX11_best_20 : decode cX11_best 20 = .ok (.iload 4, 2) := by decide +kernel
theorem dX11_best_22 : decode cX11_best 22 = .ok (.iload_n 1, 1) := by decide +kernel
theorem dX11_best_23 : decode cX11_best 23 = .ok (.invokestatic 134, 3) := by decide +kernel
theorem dX11_best_26 : decode cX11_best 26 = .ok (.if_icmp .gt 35, 3) := by decide +kernel
theorem dX11_best_29 : decode cX11_best 29 = .ok (.aload_n 0, 1) := by decide +kernel
theorem dX11_best_30 : decode cX11_best 30 = .ok (.iload_n 1, 1) := by decide +kernel
theorem dX11_best_31 : decode cX11_best 31 = .ok (.iload 4, 2) := by decide +kernel
theorem dX11_best_33 : decode cX11_best 33 = .ok (.invokevirtual 455, 3) := by decide +kernel
theorem dX11_best_36 : decode cX11_best 36 = .ok (.istore 5, 2) := by decide +kernel
theorem dX11_best_38 : decode cX11_best 38 = .ok (.iload_n 2, 1) := by decide +kernel
theorem dX11_best_39 : decode cX11_best 39 = .ok (.iconst (-1), 1) := by decide +kernel
theorem dX11_best_40 : decode cX11_best 40 = .ok (.if_icmp .eq 9, 3) := by decide +kernel
theorem dX11_best_43 : decode cX11_best 43 = .ok (.iload 5, 2) := by decide +kernel
theorem dX11_best_45 : decode cX11_best 45 = .ok (.iload_n 3, 1) := by decide +kernel
theorem dX11_best_46 : decode cX11_best 46 = .ok (.if_icmp .ge 9, 3) := by decide +kernel
theorem dX11_best_49 : decode cX11_best 49 = .ok (.iload 4, 2) := by decide +kernel
theorem dX11_best_51 : decode cX11_best 51 = .ok (.istore_n 2, 1) := by decide +kernel
theorem dX11_best_52 : decode cX11_best 52 = .ok (.iload 5, 2) := by decide +kernel
theorem dX11_best_54 : decode cX11_best 54 = .ok (.istore_n 3, 1) := by decide +kernel
theorem dX11_best_55 : decode cX11_best 55 = .ok (.iinc 4 1, 3) := by decide +kernel
theorem dX11_best_58 : decode cX11_best 58 = .ok (.goto (-38), 3) := by decide +kernel
theorem dX11_best_61 : decode cX11_best 61 = .ok (.iload_n 2, 1) := by decide +kernel
theorem dX11_best_62 : decode cX11_best 62 = .ok (.ireturn, 1) := by decide +kernel
theorem dX11_less_0 : decode cX11_less 0 = .ok (.aload_n 0, 1) := by decide +kernel
theorem dX11_less_1 : decode cX11_less 1 = .ok (.iload_n 1, 1) := by decide +kernel
theorem dX11_less_2 : decode cX11_less 2 = .ok (.invokevirtual 375, 3) := by decide +kernel
theorem dX11_less_5 : decode cX11_less 5 = .ok (.ifCond .ne 7, 3) := by decide +kernel
theorem dX11_less_8 : decode cX11_less 8 = .ok (.ldc_w 382, 3) := by decide +kernel
theorem dX11_less_11 : decode cX11_less 11 = .ok (.ireturn, 1) := by decide +kernel
theorem dX11_less_12 : decode cX11_less 12 = .ok (.aload_n 0, 1) := by decide +kernel
theorem dX11_less_13 : decode cX11_less 13 = .ok (.invokevirtual 452, 3) := by decide +kernel
theorem dX11_less_16 : decode cX11_less 16 = .ok (.istore_n 2, 1) := by decide +kernel
theorem dX11_less_17 : decode cX11_less 17 = .ok (.aload_n 0, 1) := by decide +kernel
theorem dX11_less_18 : decode cX11_less 18 = .ok (.getfield 33, 3) := by decide +kernel
theorem dX11_less_21 : decode cX11_less 21 = .ok (.iload_n 1, 1) := by decide +kernel
theorem dX11_less_22 : decode cX11_less 22 = .ok (.laload, 1) := by decide +kernel
theorem dX11_less_23 : decode cX11_less 23 = .ok (.lstore_n 3, 1) := by decide +kernel
theorem dX11_less_24 : decode cX11_less 24 = .ok (.iload_n 1, 1) := by decide +kernel
theorem dX11_less_25 : decode cX11_less 25 = .ok (.iconst 1, 1) := by decide +kernel
theorem dX11_less_26 : decode cX11_less 26 = .ok (.iadd, 1) := by decide +kernel
theorem dX11_less_27 : decode cX11_less 27 = .ok (.istore 5, 2) := by decide +kernel
theorem dX11_less_29 : decode cX11_less 29 = .ok (.iload 5, 2) := by decide +kernel
theorem dX11_less_31 : decode cX11_less 31 = .ok (.aload_n 0, 1) := by decide +kernel
theorem dX11_less_32 : decode cX11_less 32 = .ok (.getfield 242, 3) := by decide +kernel
theorem dX11_less_35 : decode cX11_less 35 = .ok (.if_icmp .ge 25, 3) := by decide +kernel
theorem dX11_less_38 : decode cX11_less 38 = .ok (.aload_n 0, 1) := by decide +kernel
theorem dX11_less_39 : decode cX11_less 39 = .ok (.getfield 33, 3) := by decide +kernel
theorem dX11_less_42 : decode cX11_less 42 = .ok (.iload 5, 2) := by decide +kernel
theorem dX11_less_44 : decode cX11_less 44 = .ok (.iconst 1, 1) := by decide +kernel
theorem dX11_less_45 : decode cX11_less 45 = .ok (.isub, 1) := by decide +kernel
theorem dX11_less_46 : decode cX11_less 46 = .ok (.aload_n 0, 1) := by decide +kernel
theorem dX11_less_47 : decode cX11_less 47 = .ok (.getfield 33, 3) := by decide +kernel
theorem dX11_less_50 : decode cX11_less 50 = .ok (.iload 5, 2) := by decide +kernel
theorem dX11_less_52 : decode cX11_less 52 = .ok (.laload, 1) := by decide +kernel
theorem dX11_less_53 : decode cX11_less 53 = .ok (.lastore, 1) := by decide +kernel
theorem dX11_less_54 : decode cX11_less 54 = .ok (.iinc 5 1, 3) := by decide +kernel
theorem dX11_less_57 : decode cX11_less 57 = .ok (.goto (-28), 3) := by decide +kernel
theorem dX11_less_60 : decode cX11_less 60 = .ok (.aload_n 0, 1) := by decide +kernel
theorem dX11_less_61 : decode cX11_less 61 = .ok (.dup, 1) := by decide +kernel
theorem dX11_less_62 : decode cX11_less 62 = .ok (.getfield 242, 3) := by decide +kernel
theorem dX11_less_65 : decode cX11_less 65 = .ok (.iconst 1, 1) := by decide +kernel
theorem dX11_less_66 : decode cX11_less 66 = .ok (.isub, 1) := by decide +kernel
theorem dX11_less_67 : decode cX11_less 67 = .ok (.putfield 242, 3) := by decide +kernel
theorem dX11_less_70 : decode cX11_less 70 = .ok (.aload_n 0, 1) := by decide +kernel
theorem dX11_less_71 : decode cX11_less 71 = .ok (.invokevirtual 452, 3) := by decide +kernel
theorem dX11_less_74 : decode cX11_less 74 = .ok (.istore 5, 2) := by decide +kernel
theorem dX11_less_76 : decode cX11_less 76 = .ok (.aload_n 0, 1) := by decide +kernel
theorem dX11_less_77 : decode cX11_less 77 = .ok (.getfield 242, 3) := by decide +kernel
theorem dX11_less_80 : decode cX11_less 80 = .ok (.istore 6, 2) := by decide +kernel
theorem dX11_less_82 : decode cX11_less 82 = .ok (.iload 6, 2) := by decide +kernel
theorem dX11_less_84 : decode cX11_less 84 = .ok (.iload_n 1, 1) := by decide +kernel
theorem dX11_less_85 : decode cX11_less 85 = .ok (.if_icmp .le 25, 3) := by decide +kernel
theorem dX11_less_88 : decode cX11_less 88 = .ok (.aload_n 0, 1) := by decide +kernel
theorem dX11_less_89 : decode cX11_less 89 = .ok (.getfield 33, 3) := by decide +kernel
theorem dX11_less_92 : decode cX11_less 92 = .ok (.iload 6, 2) := by decide +kernel
theorem dX11_less_94 : decode cX11_less 94 = .ok (.aload_n 0, 1) := by decide +kernel
theorem dX11_less_95 : decode cX11_less 95 = .ok (.getfield 33, 3) := by decide +kernel
theorem dX11_less_98 : decode cX11_less 98 = .ok (.iload 6, 2) := by decide +kernel
theorem dX11_less_100 : decode cX11_less 100 = .ok (.iconst 1, 1) := by decide +kernel
theorem dX11_less_101 : decode cX11_less 101 = .ok (.isub, 1) := by decide +kernel
theorem dX11_less_102 : decode cX11_less 102 = .ok (.laload, 1) := by decide +kernel
theorem dX11_less_103 : decode cX11_less 103 = .ok (.lastore, 1) := by decide +kernel
theorem dX11_less_104 : decode cX11_less 104 = .ok (.iinc 6 (-1), 3) := by decide +kernel
theorem dX11_less_107 : decode cX11_less 107 = .ok (.goto (-25), 3) := by decide +kernel
theorem dX11_less_110 : decode cX11_less 110 = .ok (.aload_n 0, 1) := by decide +kernel
theorem dX11_less_111 : decode cX11_less 111 = .ok (.getfield 33, 3) := by decide +kernel
theorem dX11_less_114 : decode cX11_less 114 = .ok (.iload_n 1, 1) := by decide +kernel
theorem dX11_less_115 : decode cX11_less 115 = .ok (.lload_n 3, 1) := by decide +kernel
theorem dX11_less_116 : decode cX11_less 116 = .ok (.lastore, 1) := by decide +kernel
theorem dX11_less_117 : decode cX11_less 117 = .ok (.aload_n 0, 1) := by decide +kernel
theorem dX11_less_118 : decode cX11_less 118 = .ok (.dup, 1) := by decide +kernel
theorem dX11_less_119 : decode cX11_less 119 = .ok (.getfield 242, 3) := by decide +kernel
theorem dX11_less_122 : decode cX11_less 122 = .ok (.iconst 1, 1) := by decide +kernel
theorem dX11_less_123 : decode cX11_less 123 = .ok (.iadd, 1) := by decide +kernel
theorem dX11_less_124 : decode cX11_less 124 = .ok (.putfield 242, 3) := by decide +kernel
theorem dX11_less_127 : decode cX11_less 127 = .ok (.iload_n 2, 1) := by decide +kernel
theorem dX11_less_128 : decode cX11_less 128 = .ok (.iload 5, 2) := by decide +kernel
theorem dX11_less_130 : decode cX11_less 130 = .ok (.isub, 1) := by decide +kernel
theorem dX11_less_131 : decode cX11_less 131 = .ok (.ireturn, 1) := by decide +kernel
theorem dX11_alone_0 : decode cX11_alone 0 = .ok (.aload_n 0, 1) := by decide +kernel
theorem dX11_alone_1 : decode cX11_alone 1 = .ok (.getfield 238, 3) := by decide +kernel
theorem dX11_alone_4 : decode cX11_alone 4 = .ok (.ifCond .eq 19, 3) := by decide +kernel
theorem dX11_alone_7 : decode cX11_alone 7 = .ok (.aload_n 0, 1) := by decide +kernel
theorem dX11_alone_8 : decode cX11_alone 8 = .ok (.getfield 242, 3) := by decide +kernel
theorem dX11_alone_11 : decode cX11_alone 11 = .ok (.ifCond .eq 12, 3) := by decide +kernel
theorem dX11_alone_14 : decode cX11_alone 14 = .ok (.iload_n 1, 1) := by decide +kernel
theorem dX11_alone_15 : decode cX11_alone 15 = .ok (.iconst 0, 1) := by decide +kernel
theorem dX11_alone_16 : decode cX11_alone 16 = .ok (.iconst 1, 1) := by decide +kernel
theorem dX11_alone_17 : decode cX11_alone 17 = .ok (.invokestatic 99, 3) := by decide +kernel
theorem dX11_alone_20 : decode cX11_alone 20 = .ok (.ifCond .ne 5, 3) := by decide +kernel
theorem dX11_alone_23 : decode cX11_alone 23 = .ok (.iconst (-1), 1) := by decide +kernel
theorem dX11_alone_24 : decode cX11_alone 24 = .ok (.ireturn, 1) := by decide +kernel
theorem dX11_alone_25 : decode cX11_alone 25 = .ok (.iconst (-1), 1) := by decide +kernel
theorem dX11_alone_26 : decode cX11_alone 26 = .ok (.istore_n 2, 1) := by decide +kernel
theorem dX11_alone_27 : decode cX11_alone 27 = .ok (.iconst 0, 1) := by decide +kernel
theorem dX11_alone_28 : decode cX11_alone 28 = .ok (.istore_n 3, 1) := by decide +kernel
theorem dX11_alone_29 : decode cX11_alone 29 = .ok (.iconst 0, 1) := by decide +kernel
theorem dX11_alone_30 : decode cX11_alone 30 = .ok (.istore 4, 2) := by decide +kernel
theorem dX11_alone_32 : decode cX11_alone 32 = .ok (.iload 4, 2) := by decide +kernel
theorem dX11_alone_34 : decode cX11_alone 34 = .ok (.aload_n 0, 1) := by decide +kernel
theorem dX11_alone_35 : decode cX11_alone 35 = .ok (.getfield 36, 3) := by decide +kernel
theorem dX11_alone_38 : decode cX11_alone 38 = .ok (.iconst 2, 1) := by decide +kernel
theorem dX11_alone_39 : decode cX11_alone 39 = .ok (.iaload, 1) := by decide +kernel
theorem dX11_alone_40 : decode cX11_alone 40 = .ok (.if_icmp .gt 88, 3) := by decide +kernel
theorem dX11_alone_43 : decode cX11_alone 43 = .ok (.iconst 0, 1) := by decide +kernel
theorem dX11_alone_44 : decode cX11_alone 44 = .ok (.istore 5, 2) := by decide +kernel
theorem dX11_alone_46 : decode cX11_alone 46 = .ok (.iload 5, 2) := by decide +kernel
theorem dX11_alone_48 : decode cX11_alone 48 = .ok (.iload 4, 2) := by decide +kernel
theorem dX11_alone_50 : decode cX11_alone 50 = .ok (.if_icmp .gt 72, 3) := by decide +kernel
theorem dX11_alone_53 : decode cX11_alone 53 = .ok (.iconst 0, 1) := by decide +kernel
theorem dX11_alone_54 : decode cX11_alone 54 = .ok (.istore 6, 2) := by decide +kernel
theorem dX11_alone_56 : decode cX11_alone 56 = .ok (.iconst 0, 1) := by decide +kernel
theorem dX11_alone_57 : decode cX11_alone 57 = .ok (.istore 7, 2) := by decide +kernel
theorem dX11_alone_59 : decode cX11_alone 59 = .ok (.iload 7, 2) := by decide +kernel
theorem dX11_alone_61 : decode cX11_alone 61 = .ok (.aload_n 0, 1) := by decide +kernel
theorem dX11_alone_62 : decode cX11_alone 62 = .ok (.invokevirtual 329, 3) := by decide +kernel
theorem dX11_alone_65 : decode cX11_alone 65 = .ok (.if_icmp .ge 28, 3) := by decide +kernel
theorem dX11_alone_68 : decode cX11_alone 68 = .ok (.aload_n 0, 1) := by decide +kernel
theorem dX11_alone_69 : decode cX11_alone 69 = .ok (.iload 7, 2) := by decide +kernel
theorem dX11_alone_71 : decode cX11_alone 71 = .ok (.invokevirtual 351, 3) := by decide +kernel
theorem dX11_alone_74 : decode cX11_alone 74 = .ok (.iload 6, 2) := by decide +kernel
theorem dX11_alone_76 : decode cX11_alone 76 = .ok (.aload_n 0, 1) := by decide +kernel
theorem dX11_alone_77 : decode cX11_alone 77 = .ok (.iload 4, 2) := by decide +kernel
theorem dX11_alone_79 : decode cX11_alone 79 = .ok (.iload 5, 2) := by decide +kernel
theorem dX11_alone_81 : decode cX11_alone 81 = .ok (.invokevirtual 336, 3) := by decide +kernel
theorem dX11_alone_84 : decode cX11_alone 84 = .ok (.iadd, 1) := by decide +kernel
theorem dX11_alone_85 : decode cX11_alone 85 = .ok (.istore 6, 2) := by decide +kernel
theorem dX11_alone_87 : decode cX11_alone 87 = .ok (.iinc 7 1, 3) := by decide +kernel
theorem dX11_alone_90 : decode cX11_alone 90 = .ok (.goto (-31), 3) := by decide +kernel
theorem dX11_alone_93 : decode cX11_alone 93 = .ok (.iload_n 2, 1) := by decide +kernel
theorem dX11_alone_94 : decode cX11_alone 94 = .ok (.iconst (-1), 1) := by decide +kernel
theorem dX11_alone_95 : decode cX11_alone 95 = .ok (.if_icmp .eq 9, 3) := by decide +kernel
theorem dX11_alone_98 : decode cX11_alone 98 = .ok (.iload 6, 2) := by decide +kernel
theorem dX11_alone_100 : decode cX11_alone 100 = .ok (.iload_n 3, 1) := by decide +kernel
theorem dX11_alone_101 : decode cX11_alone 101 = .ok (.if_icmp .ge 15, 3) := by decide +kernel
theorem dX11_alone_104 : decode cX11_alone 104 = .ok (.bipush 16, 2) := by decide +kernel
theorem dX11_alone_106 : decode cX11_alone 106 = .ok (.iload 4, 2) := by decide +kernel
theorem dX11_alone_108 : decode cX11_alone 108 = .ok (.imul, 1) := by decide +kernel
theorem dX11_alone_109 : decode cX11_alone 109 = .ok (.iload 5, 2) := by decide +kernel
theorem dX11_alone_111 : decode cX11_alone 111 = .ok (.iadd, 1) := by decide +kernel
theorem dX11_alone_112 : decode cX11_alone 112 = .ok (.istore_n 2, 1) := by decide +kernel
theorem dX11_alone_113 : decode cX11_alone 113 = .ok (.iload 6, 2) := by decide +kernel
theorem dX11_alone_115 : decode cX11_alone 115 = .ok (.istore_n 3, 1) := by decide +kernel
theorem dX11_alone_116 : decode cX11_alone 116 = .ok (.iinc 5 1, 3) := by decide +kernel
theorem dX11_alone_119 : decode cX11_alone 119 = .ok (.goto (-73), 3) := by decide +kernel
theorem dX11_alone_122 : decode cX11_alone 122 = .ok (.iinc 4 1, 3) := by decide +kernel
theorem dX11_alone_125 : decode cX11_alone 125 = .ok (.goto (-93), 3) := by decide +kernel
theorem dX11_alone_128 : decode cX11_alone 128 = .ok (.iload_n 1, 1) := by decide +kernel
theorem dX11_alone_129 : decode cX11_alone 129 = .ok (.ifCond .ne 7, 3) := by decide +kernel
theorem dX11_alone_132 : decode cX11_alone 132 = .ok (.iload_n 2, 1) := by decide +kernel
theorem dX11_alone_133 : decode cX11_alone 133 = .ok (.goto 4, 3) := by decide +kernel
theorem dX11_alone_136 : decode cX11_alone 136 = .ok (.iload_n 3, 1) := by decide +kernel
theorem dX11_alone_137 : decode cX11_alone 137 = .ok (.ireturn, 1) := by decide +kernel
theorem dX11_near_0 : decode cX11_near 0 = .ok (.aload_n 0, 1) := by decide +kernel
theorem dX11_near_1 : decode cX11_near 1 = .ok (.iload_n 1, 1) := by decide +kernel
theorem dX11_near_2 : decode cX11_near 2 = .ok (.invokevirtual 375, 3) := by decide +kernel
theorem dX11_near_5 : decode cX11_near 5 = .ok (.ifCond .eq 11, 3) := by decide +kernel
theorem dX11_near_8 : decode cX11_near 8 = .ok (.aload_n 0, 1) := by decide +kernel
theorem dX11_near_9 : decode cX11_near 9 = .ok (.iload_n 2, 1) := by decide +kernel
theorem dX11_near_10 : decode cX11_near 10 = .ok (.invokevirtual 375, 3) := by decide +kernel
theorem dX11_near_13 : decode cX11_near 13 = .ok (.ifCond .ne 5, 3) := by decide +kernel
theorem dX11_near_16 : decode cX11_near 16 = .ok (.iconst (-1), 1) := by decide +kernel
theorem dX11_near_17 : decode cX11_near 17 = .ok (.ireturn, 1) := by decide +kernel
theorem dX11_near_18 : decode cX11_near 18 = .ok (.aload_n 0, 1) := by decide +kernel
theorem dX11_near_19 : decode cX11_near 19 = .ok (.getfield 33, 3) := by decide +kernel
theorem dX11_near_22 : decode cX11_near 22 = .ok (.iload_n 1, 1) := by decide +kernel
theorem dX11_near_23 : decode cX11_near 23 = .ok (.laload, 1) := by decide +kernel
theorem dX11_near_24 : decode cX11_near 24 = .ok (.aload_n 0, 1) := by decide +kernel
theorem dX11_near_25 : decode cX11_near 25 = .ok (.getfield 33, 3) := by decide +kernel
theorem dX11_near_28 : decode cX11_near 28 = .ok (.iload_n 2, 1) := by decide +kernel
theorem dX11_near_29 : decode cX11_near 29 = .ok (.laload, 1) := by decide +kernel
theorem dX11_near_30 : decode cX11_near 30 = .ok (.lxor, 1) := by decide +kernel
theorem dX11_near_31 : decode cX11_near 31 = .ok (.lstore_n 3, 1) := by decide +kernel
theorem dX11_near_32 : decode cX11_near 32 = .ok (.iconst 0, 1) := by decide +kernel
theorem dX11_near_33 : decode cX11_near 33 = .ok (.istore 5, 2) := by decide +kernel
theorem dX11_near_35 : decode cX11_near 35 = .ok (.iconst 0, 1) := by decide +kernel
theorem dX11_near_36 : decode cX11_near 36 = .ok (.istore 6, 2) := by decide +kernel
theorem dX11_near_38 : decode cX11_near 38 = .ok (.iload 6, 2) := by decide +kernel
theorem dX11_near_40 : decode cX11_near 40 = .ok (.bipush 64, 2) := by decide +kernel
theorem dX11_near_42 : decode cX11_near 42 = .ok (.if_icmp .ge 30, 3) := by decide +kernel
theorem dX11_near_45 : decode cX11_near 45 = .ok (.iload 5, 2) := by decide +kernel
theorem dX11_near_47 : decode cX11_near 47 = .ok (.lload_n 3, 1) := by decide +kernel
theorem dX11_near_48 : decode cX11_near 48 = .ok (.iload 6, 2) := by decide +kernel
theorem dX11_near_50 : decode cX11_near 50 = .ok (.lushr, 1) := by decide +kernel
theorem dX11_near_51 : decode cX11_near 51 = .ok (.lconst 1, 1) := by decide +kernel
theorem dX11_near_52 : decode cX11_near 52 = .ok (.land, 1) := by decide +kernel
theorem dX11_near_53 : decode cX11_near 53 = .ok (.lconst 1, 1) := by decide +kernel
theorem dX11_near_54 : decode cX11_near 54 = .ok (.lcmp, 1) := by decide +kernel
theorem dX11_near_55 : decode cX11_near 55 = .ok (.ifCond .ne 7, 3) := by decide +kernel
theorem dX11_near_58 : decode cX11_near 58 = .ok (.iconst 1, 1) := by decide +kernel
theorem dX11_near_59 : decode cX11_near 59 = .ok (.goto 4, 3) := by decide +kernel
theorem dX11_near_62 : decode cX11_near 62 = .ok (.iconst 0, 1) := by decide +kernel
theorem dX11_near_63 : decode cX11_near 63 = .ok (.iadd, 1) := by decide +kernel
theorem dX11_near_64 : decode cX11_near 64 = .ok (.istore 5, 2) := by decide +kernel
theorem dX11_near_66 : decode cX11_near 66 = .ok (.iinc 6 1, 3) := by decide +kernel
theorem dX11_near_69 : decode cX11_near 69 = .ok (.goto (-31), 3) := by decide +kernel
theorem dX11_near_72 : decode cX11_near 72 = .ok (.iload 5, 2) := by decide +kernel
theorem dX11_near_74 : decode cX11_near 74 = .ok (.ireturn, 1) := by decide +kernel
theorem dX11_isMissing_0 : decode cX11_isMissing 0 = .ok (.lload_n 1, 1) := by decide +kernel
theorem dX11_isMissing_1 : decode cX11_isMissing 1 = .ok (.invokestatic 260, 3) := by decide +kernel
theorem dX11_isMissing_4 : decode cX11_isMissing 4 = .ok (.ifCond .ne 16, 3) := by decide +kernel
theorem dX11_isMissing_7 : decode cX11_isMissing 7 = .ok (.lload_n 1, 1) := by decide +kernel
theorem dX11_isMissing_8 : decode cX11_isMissing 8 = .ok (.bipush 12, 2) := by decide +kernel
theorem dX11_isMissing_10 : decode cX11_isMissing 10 = .ok (.lshl, 1) := by decide +kernel
theorem dX11_isMissing_11 : decode cX11_isMissing 11 = .ok (.lconst 0, 1) := by decide +kernel
theorem dX11_isMissing_12 : decode cX11_isMissing 12 = .ok (.lcmp, 1) := by decide +kernel
theorem dX11_isMissing_13 : decode cX11_isMissing 13 = .ok (.ifCond .eq 7, 3) := by decide +kernel
theorem dX11_isMissing_16 : decode cX11_isMissing 16 = .ok (.iconst 1, 1) := by decide +kernel
theorem dX11_isMissing_17 : decode cX11_isMissing 17 = .ok (.goto 4, 3) := by decide +kernel
theorem dX11_isMissing_20 : decode cX11_isMissing 20 = .ok (.iconst 0, 1) := by decide +kernel
theorem dX11_isMissing_21 : decode cX11_isMissing 21 = .ok (.ireturn, 1) := by decide +kernel
theorem dX11_rawOfAll_0 : decode cX11_rawOfAll 0 = .ok (.iconst 0, 1) := by decide +kernel
theorem dX11_rawOfAll_1 : decode cX11_rawOfAll 1 = .ok (.istore_n 1, 1) := by decide +kernel
theorem dX11_rawOfAll_2 : decode cX11_rawOfAll 2 = .ok (.iconst 0, 1) := by decide +kernel
theorem dX11_rawOfAll_3 : decode cX11_rawOfAll 3 = .ok (.istore_n 2, 1) := by decide +kernel
theorem dX11_rawOfAll_4 : decode cX11_rawOfAll 4 = .ok (.iload_n 2, 1) := by decide +kernel
theorem dX11_rawOfAll_5 : decode cX11_rawOfAll 5 = .ok (.aload_n 0, 1) := by decide +kernel
theorem dX11_rawOfAll_6 : decode cX11_rawOfAll 6 = .ok (.invokevirtual 329, 3) := by decide +kernel
theorem dX11_rawOfAll_9 : decode cX11_rawOfAll 9 = .ok (.if_icmp .ge 22, 3) := by decide +kernel
theorem dX11_rawOfAll_12 : decode cX11_rawOfAll 12 = .ok (.iload_n 1, 1) := by decide +kernel
theorem dX11_rawOfAll_13 : decode cX11_rawOfAll 13 = .ok (.iconst 3, 1) := by decide +kernel
theorem dX11_rawOfAll_14 : decode cX11_rawOfAll 14 = .ok (.bipush 8, 2) := by decide +kernel
theorem dX11_rawOfAll_16 : decode cX11_rawOfAll 16 = .ok (.aload_n 0, 1) := by decide +kernel
theorem dX11_rawOfAll_17 : decode cX11_rawOfAll 17 = .ok (.iload_n 2, 1) := by decide +kernel
theorem dX11_rawOfAll_18 : decode cX11_rawOfAll 18 = .ok (.invokevirtual 283, 3) := by decide +kernel
theorem dX11_rawOfAll_21 : decode cX11_rawOfAll 21 = .ok (.imul, 1) := by decide +kernel
theorem dX11_rawOfAll_22 : decode cX11_rawOfAll 22 = .ok (.iadd, 1) := by decide +kernel
theorem dX11_rawOfAll_23 : decode cX11_rawOfAll 23 = .ok (.iadd, 1) := by decide +kernel
theorem dX11_rawOfAll_24 : decode cX11_rawOfAll 24 = .ok (.istore_n 1, 1) := by decide +kernel
theorem dX11_rawOfAll_25 : decode cX11_rawOfAll 25 = .ok (.iinc 2 1, 3) := by decide +kernel
theorem dX11_rawOfAll_28 : decode cX11_rawOfAll 28 = .ok (.goto (-24), 3) := by decide +kernel
theorem dX11_rawOfAll_31 : decode cX11_rawOfAll 31 = .ok (.iload_n 1, 1) := by decide +kernel
theorem dX11_rawOfAll_32 : decode cX11_rawOfAll 32 = .ok (.ireturn, 1) := by decide +kernel
theorem dX11_unlike_0 : decode cX11_unlike 0 = .ok (.iconst 0, 1) := by decide +kernel
theorem dX11_unlike_1 : decode cX11_unlike 1 = .ok (.istore_n 2, 1) := by decide +kernel
theorem dX11_unlike_2 : decode cX11_unlike 2 = .ok (.iconst 0, 1) := by decide +kernel
theorem dX11_unlike_3 : decode cX11_unlike 3 = .ok (.istore_n 3, 1) := by decide +kernel
theorem dX11_unlike_4 : decode cX11_unlike 4 = .ok (.iload_n 3, 1) := by decide +kernel
theorem dX11_unlike_5 : decode cX11_unlike 5 = .ok (.aload_n 0, 1) := by decide +kernel
theorem dX11_unlike_6 : decode cX11_unlike 6 = .ok (.getfield 242, 3) := by decide +kernel
theorem dX11_unlike_9 : decode cX11_unlike 9 = .ok (.if_icmp .ge 123, 3) := by decide +kernel
theorem dX11_unlike_12 : decode cX11_unlike 12 = .ok (.iload_n 1, 1) := by decide +kernel
theorem dX11_unlike_13 : decode cX11_unlike 13 = .ok (.iconst 1, 1) := by decide +kernel
theorem dX11_unlike_14 : decode cX11_unlike 14 = .ok (.if_icmp .ne 16, 3) := by decide +kernel
theorem dX11_unlike_17 : decode cX11_unlike 17 = .ok (.aload_n 0, 1) := by decide +kernel
theorem dX11_unlike_18 : decode cX11_unlike 18 = .ok (.aload_n 0, 1) := by decide +kernel
theorem dX11_unlike_19 : decode cX11_unlike 19 = .ok (.getfield 33, 3) := by decide +kernel
theorem dX11_unlike_22 : decode cX11_unlike 22 = .ok (.iload_n 3, 1) := by decide +kernel
theorem dX11_unlike_23 : decode cX11_unlike 23 = .ok (.laload, 1) := by decide +kernel
theorem dX11_unlike_24 : decode cX11_unlike 24 = .ok (.invokevirtual 458, 3) := by decide +kernel
theorem dX11_unlike_27 : decode cX11_unlike 27 = .ok (.ifCond .eq 7, 3) := by decide +kernel
theorem dX11_unlike_30 : decode cX11_unlike 30 = .ok (.iconst 1, 1) := by decide +kernel
theorem dX11_unlike_31 : decode cX11_unlike 31 = .ok (.goto 4, 3) := by decide +kernel
theorem dX11_unlike_34 : decode cX11_unlike 34 = .ok (.iconst 0, 1) := by decide +kernel
theorem dX11_unlike_35 : decode cX11_unlike 35 = .ok (.istore 4, 2) := by decide +kernel
theorem dX11_unlike_37 : decode cX11_unlike 37 = .ok (.iconst 0, 1) := by decide +kernel
theorem dX11_unlike_38 : decode cX11_unlike 38 = .ok (.istore 5, 2) := by decide +kernel
theorem dX11_unlike_40 : decode cX11_unlike 40 = .ok (.iload 5, 2) := by decide +kernel
theorem dX11_unlike_42 : decode cX11_unlike 42 = .ok (.iload_n 3, 1) := by decide +kernel
theorem dX11_unlike_43 : decode cX11_unlike 43 = .ok (.if_icmp .ge 70, 3) := by decide +kernel
theorem dX11_unlike_46 : decode cX11_unlike 46 = .ok (.iload 4, 2) := by decide +kernel
theorem dX11_unlike_48 : decode cX11_unlike 48 = .ok (.ifCond .eq 56, 3) := by decide +kernel
theorem dX11_unlike_51 : decode cX11_unlike 51 = .ok (.iload_n 1, 1) := by decide +kernel
theorem dX11_unlike_52 : decode cX11_unlike 52 = .ok (.iconst 2, 1) := by decide +kernel
theorem dX11_unlike_53 : decode cX11_unlike 53 = .ok (.if_icmp .ne 30, 3) := by decide +kernel
theorem dX11_unlike_56 : decode cX11_unlike 56 = .ok (.aload_n 0, 1) := by decide +kernel
theorem dX11_unlike_57 : decode cX11_unlike 57 = .ok (.aload_n 0, 1) := by decide +kernel
theorem dX11_unlike_58 : decode cX11_unlike 58 = .ok (.getfield 33, 3) := by decide +kernel
theorem dX11_unlike_61 : decode cX11_unlike 61 = .ok (.iload 5, 2) := by decide +kernel
theorem dX11_unlike_63 : decode cX11_unlike 63 = .ok (.laload, 1) := by decide +kernel
theorem dX11_unlike_64 : decode cX11_unlike 64 = .ok (.invokevirtual 317, 3) := by decide +kernel
theorem dX11_unlike_67 : decode cX11_unlike 67 = .ok (.aload_n 0, 1) := by decide +kernel
theorem dX11_unlike_68 : decode cX11_unlike 68 = .ok (.aload_n 0, 1) := by decide +kernel
theorem dX11_unlike_69 : decode cX11_unlike 69 = .ok (.getfield 33, 3) := by decide +kernel
theorem dX11_unlike_72 : decode cX11_unlike 72 = .ok (.iload_n 3, 1) := by decide +kernel
theorem dX11_unlike_73 : decode cX11_unlike 73 = .ok (.laload, 1) := by decide +kernel
theorem dX11_unlike_74 : decode cX11_unlike 74 = .ok (.invokevirtual 317, 3) := by decide +kernel
theorem dX11_unlike_77 : decode cX11_unlike 77 = .ok (.if_icmp .eq 27, 3) := by decide +kernel
theorem dX11_unlike_80 : decode cX11_unlike 80 = .ok (.goto 20, 3) := by decide +kernel
theorem dX11_unlike_83 : decode cX11_unlike 83 = .ok (.aload_n 0, 1) := by decide +kernel
theorem dX11_unlike_84 : decode cX11_unlike 84 = .ok (.getfield 33, 3) := by decide +kernel
theorem dX11_unlike_87 : decode cX11_unlike 87 = .ok (.iload 5, 2) := by decide +kernel
theorem dX11_unlike_89 : decode cX11_unlike 89 = .ok (.laload, 1) := by decide +kernel
theorem dX11_unlike_90 : decode cX11_unlike 90 = .ok (.aload_n 0, 1) := by decide +kernel
theorem dX11_unlike_91 : decode cX11_unlike 91 = .ok (.getfield 33, 3) := by decide +kernel
theorem dX11_unlike_94 : decode cX11_unlike 94 = .ok (.iload_n 3, 1) := by decide +kernel
theorem dX11_unlike_95 : decode cX11_unlike 95 = .ok (.laload, 1) := by decide +kernel
theorem dX11_unlike_96 : decode cX11_unlike 96 = .ok (.lcmp, 1) := by decide +kernel
theorem dX11_unlike_97 : decode cX11_unlike 97 = .ok (.ifCond .eq 7, 3) := by decide +kernel
theorem dX11_unlike_100 : decode cX11_unlike 100 = .ok (.iconst 1, 1) := by decide +kernel
theorem dX11_unlike_101 : decode cX11_unlike 101 = .ok (.goto 4, 3) := by decide +kernel
theorem dX11_unlike_104 : decode cX11_unlike 104 = .ok (.iconst 0, 1) := by decide +kernel
theorem dX11_unlike_105 : decode cX11_unlike 105 = .ok (.istore 4, 2) := by decide +kernel
theorem dX11_unlike_107 : decode cX11_unlike 107 = .ok (.iinc 5 1, 3) := by decide +kernel
theorem dX11_unlike_110 : decode cX11_unlike 110 = .ok (.goto (-70), 3) := by decide +kernel
theorem dX11_unlike_113 : decode cX11_unlike 113 = .ok (.iload_n 2, 1) := by decide +kernel
theorem dX11_unlike_114 : decode cX11_unlike 114 = .ok (.iload 4, 2) := by decide +kernel
theorem dX11_unlike_116 : decode cX11_unlike 116 = .ok (.ifCond .eq 7, 3) := by decide +kernel
theorem dX11_unlike_119 : decode cX11_unlike 119 = .ok (.iconst 1, 1) := by decide +kernel
theorem dX11_unlike_120 : decode cX11_unlike 120 = .ok (.goto 4, 3) := by decide +kernel
theorem dX11_unlike_123 : decode cX11_unlike 123 = .ok (.iconst 0, 1) := by decide +kernel
theorem dX11_unlike_124 : decode cX11_unlike 124 = .ok (.iadd, 1) := by decide +kernel
theorem dX11_unlike_125 : decode cX11_unlike 125 = .ok (.istore_n 2, 1) := by decide +kernel
theorem dX11_unlike_126 : decode cX11_unlike 126 = .ok (.iinc 3 1, 3) := by decide +kernel
theorem dX11_unlike_129 : decode cX11_unlike 129 = .ok (.goto (-125), 3) := by decide +kernel
theorem dX11_unlike_132 : decode cX11_unlike 132 = .ok (.iload_n 2, 1) := by decide +kernel
theorem dX11_unlike_133 : decode cX11_unlike 133 = .ok (.ireturn, 1) := by decide +kernel
theorem dX11_runs_0 : decode cX11_runs 0 = .ok (.iconst 0, 1) := by decide +kernel
theorem dX11_runs_1 : decode cX11_runs 1 = .ok (.istore_n 1, 1) := by decide +kernel
theorem dX11_runs_2 : decode cX11_runs 2 = .ok (.iconst 0, 1) := by decide +kernel
theorem dX11_runs_3 : decode cX11_runs 3 = .ok (.istore_n 2, 1) := by decide +kernel
theorem dX11_runs_4 : decode cX11_runs 4 = .ok (.iload_n 2, 1) := by decide +kernel
theorem dX11_runs_5 : decode cX11_runs 5 = .ok (.aload_n 0, 1) := by decide +kernel
theorem dX11_runs_6 : decode cX11_runs 6 = .ok (.getfield 242, 3) := by decide +kernel
theorem dX11_runs_9 : decode cX11_runs 9 = .ok (.if_icmp .ge 39, 3) := by decide +kernel
theorem dX11_runs_12 : decode cX11_runs 12 = .ok (.iload_n 1, 1) := by decide +kernel
theorem dX11_runs_13 : decode cX11_runs 13 = .ok (.iload_n 2, 1) := by decide +kernel
theorem dX11_runs_14 : decode cX11_runs 14 = .ok (.ifCond .eq 21, 3) := by decide +kernel
theorem dX11_runs_17 : decode cX11_runs 17 = .ok (.aload_n 0, 1) := by decide +kernel
theorem dX11_runs_18 : decode cX11_runs 18 = .ok (.getfield 33, 3) := by decide +kernel
theorem dX11_runs_21 : decode cX11_runs 21 = .ok (.iload_n 2, 1) := by decide +kernel
theorem dX11_runs_22 : decode cX11_runs 22 = .ok (.laload, 1) := by decide +kernel
theorem dX11_runs_23 : decode cX11_runs 23 = .ok (.aload_n 0, 1) := by decide +kernel
theorem dX11_runs_24 : decode cX11_runs 24 = .ok (.getfield 33, 3) := by decide +kernel
theorem dX11_runs_27 : decode cX11_runs 27 = .ok (.iload_n 2, 1) := by decide +kernel
theorem dX11_runs_28 : decode cX11_runs 28 = .ok (.iconst 1, 1) := by decide +kernel
theorem dX11_runs_29 : decode cX11_runs 29 = .ok (.isub, 1) := by decide +kernel
theorem dX11_runs_30 : decode cX11_runs 30 = .ok (.laload, 1) := by decide +kernel
theorem dX11_runs_31 : decode cX11_runs 31 = .ok (.lcmp, 1) := by decide +kernel
theorem dX11_runs_32 : decode cX11_runs 32 = .ok (.ifCond .eq 7, 3) := by decide +kernel
theorem dX11_runs_35 : decode cX11_runs 35 = .ok (.iconst 1, 1) := by decide +kernel
theorem dX11_runs_36 : decode cX11_runs 36 = .ok (.goto 4, 3) := by decide +kernel
theorem dX11_runs_39 : decode cX11_runs 39 = .ok (.iconst 0, 1) := by decide +kernel
theorem dX11_runs_40 : decode cX11_runs 40 = .ok (.iadd, 1) := by decide +kernel
theorem dX11_runs_41 : decode cX11_runs 41 = .ok (.istore_n 1, 1) := by decide +kernel
theorem dX11_runs_42 : decode cX11_runs 42 = .ok (.iinc 2 1, 3) := by decide +kernel
theorem dX11_runs_45 : decode cX11_runs 45 = .ok (.goto (-41), 3) := by decide +kernel
theorem dX11_runs_48 : decode cX11_runs 48 = .ok (.iload_n 1, 1) := by decide +kernel
theorem dX11_runs_49 : decode cX11_runs 49 = .ok (.ireturn, 1) := by decide +kernel
theorem dX11_manyOf_0 : decode cX11_manyOf 0 = .ok (.iconst 0, 1) := by decide +kernel
theorem dX11_manyOf_1 : decode cX11_manyOf 1 = .ok (.istore_n 2, 1) := by decide +kernel
theorem dX11_manyOf_2 : decode cX11_manyOf 2 = .ok (.iconst 0, 1) := by decide +kernel
theorem dX11_manyOf_3 : decode cX11_manyOf 3 = .ok (.istore_n 3, 1) := by decide +kernel
theorem dX11_manyOf_4 : decode cX11_manyOf 4 = .ok (.iload_n 3, 1) := by decide +kernel
theorem dX11_manyOf_5 : decode cX11_manyOf 5 = .ok (.aload_n 0, 1) := by decide +kernel
theorem dX11_manyOf_6 : decode cX11_manyOf 6 = .ok (.getfield 242, 3) := by decide +kernel
theorem dX11_manyOf_9 : decode cX11_manyOf 9 = .ok (.if_icmp .ge 76, 3) := by decide +kernel
theorem dX11_manyOf_12 : decode cX11_manyOf 12 = .ok (.iload_n 1, 1) := by decide +kernel
theorem dX11_manyOf_13 : decode cX11_manyOf 13 = .ok (.ifCond .ne 15, 3) := by decide +kernel
theorem dX11_manyOf_16 : decode cX11_manyOf 16 = .ok (.aload_n 0, 1) := by decide +kernel
theorem dX11_manyOf_17 : decode cX11_manyOf 17 = .ok (.getfield 33, 3) := by decide +kernel
theorem dX11_manyOf_20 : decode cX11_manyOf 20 = .ok (.iload_n 3, 1) := by decide +kernel
theorem dX11_manyOf_21 : decode cX11_manyOf 21 = .ok (.laload, 1) := by decide +kernel
theorem dX11_manyOf_22 : decode cX11_manyOf 22 = .ok (.invokestatic 260, 3) := by decide +kernel
theorem dX11_manyOf_25 : decode cX11_manyOf 25 = .ok (.goto 39, 3) := by decide +kernel
theorem dX11_manyOf_28 : decode cX11_manyOf 28 = .ok (.iload_n 1, 1) := by decide +kernel
theorem dX11_manyOf_29 : decode cX11_manyOf 29 = .ok (.iconst 1, 1) := by decide +kernel
theorem dX11_manyOf_30 : decode cX11_manyOf 30 = .ok (.if_icmp .ne 16, 3) := by decide +kernel
theorem dX11_manyOf_33 : decode cX11_manyOf 33 = .ok (.aload_n 0, 1) := by decide +kernel
theorem dX11_manyOf_34 : decode cX11_manyOf 34 = .ok (.aload_n 0, 1) := by decide +kernel
theorem dX11_manyOf_35 : decode cX11_manyOf 35 = .ok (.getfield 33, 3) := by decide +kernel
theorem dX11_manyOf_38 : decode cX11_manyOf 38 = .ok (.iload_n 3, 1) := by decide +kernel
theorem dX11_manyOf_39 : decode cX11_manyOf 39 = .ok (.laload, 1) := by decide +kernel
theorem dX11_manyOf_40 : decode cX11_manyOf 40 = .ok (.invokevirtual 458, 3) := by decide +kernel
theorem dX11_manyOf_43 : decode cX11_manyOf 43 = .ok (.goto 21, 3) := by decide +kernel
theorem dX11_manyOf_46 : decode cX11_manyOf 46 = .ok (.aload_n 0, 1) := by decide +kernel
theorem dX11_manyOf_47 : decode cX11_manyOf 47 = .ok (.getfield 33, 3) := by decide +kernel
theorem dX11_manyOf_50 : decode cX11_manyOf 50 = .ok (.iload_n 3, 1) := by decide +kernel
theorem dX11_manyOf_51 : decode cX11_manyOf 51 = .ok (.laload, 1) := by decide +kernel
theorem dX11_manyOf_52 : decode cX11_manyOf 52 = .ok (.ldc2_w 167, 3) := by decide +kernel
theorem dX11_manyOf_55 : decode cX11_manyOf 55 = .ok (.lcmp, 1) := by decide +kernel
theorem dX11_manyOf_56 : decode cX11_manyOf 56 = .ok (.ifCond .ne 7, 3) := by decide +kernel
theorem dX11_manyOf_59 : decode cX11_manyOf 59 = .ok (.iconst 1, 1) := by decide +kernel
theorem dX11_manyOf_60 : decode cX11_manyOf 60 = .ok (.goto 4, 3) := by decide +kernel
theorem dX11_manyOf_63 : decode cX11_manyOf 63 = .ok (.iconst 0, 1) := by decide +kernel
theorem dX11_manyOf_64 : decode cX11_manyOf 64 = .ok (.istore 4, 2) := by decide +kernel
theorem dX11_manyOf_66 : decode cX11_manyOf 66 = .ok (.iload_n 2, 1) := by decide +kernel
theorem dX11_manyOf_67 : decode cX11_manyOf 67 = .ok (.iload 4, 2) := by decide +kernel
theorem dX11_manyOf_69 : decode cX11_manyOf 69 = .ok (.ifCond .eq 7, 3) := by decide +kernel
theorem dX11_manyOf_72 : decode cX11_manyOf 72 = .ok (.iconst 1, 1) := by decide +kernel
theorem dX11_manyOf_73 : decode cX11_manyOf 73 = .ok (.goto 4, 3) := by decide +kernel
theorem dX11_manyOf_76 : decode cX11_manyOf 76 = .ok (.iconst 0, 1) := by decide +kernel
theorem dX11_manyOf_77 : decode cX11_manyOf 77 = .ok (.iadd, 1) := by decide +kernel
theorem dX11_manyOf_78 : decode cX11_manyOf 78 = .ok (.istore_n 2, 1) := by decide +kernel
theorem dX11_manyOf_79 : decode cX11_manyOf 79 = .ok (.iinc 3 1, 3) := by decide +kernel
theorem dX11_manyOf_82 : decode cX11_manyOf 82 = .ok (.goto (-78), 3) := by decide +kernel
theorem dX11_manyOf_85 : decode cX11_manyOf 85 = .ok (.iload_n 2, 1) := by decide +kernel
theorem dX11_manyOf_86 : decode cX11_manyOf 86 = .ok (.ireturn, 1) := by decide +kernel
theorem dX11_oddOfAll_0 : decode cX11_oddOfAll 0 = .ok (.aload_n 0, 1) := by decide +kernel
theorem dX11_oddOfAll_1 : decode cX11_oddOfAll 1 = .ok (.invokevirtual 369, 3) := by decide +kernel
theorem dX11_oddOfAll_4 : decode cX11_oddOfAll 4 = .ok (.iconst 0, 1) := by decide +kernel
theorem dX11_oddOfAll_5 : decode cX11_oddOfAll 5 = .ok (.istore_n 1, 1) := by decide +kernel
theorem dX11_oddOfAll_6 : decode cX11_oddOfAll 6 = .ok (.iconst 0, 1) := by decide +kernel
theorem dX11_oddOfAll_7 : decode cX11_oddOfAll 7 = .ok (.istore_n 2, 1) := by decide +kernel
theorem dX11_oddOfAll_8 : decode cX11_oddOfAll 8 = .ok (.iload_n 2, 1) := by decide +kernel
theorem dX11_oddOfAll_9 : decode cX11_oddOfAll 9 = .ok (.aload_n 0, 1) := by decide +kernel
theorem dX11_oddOfAll_10 : decode cX11_oddOfAll 10 = .ok (.invokevirtual 329, 3) := by decide +kernel
theorem dX11_oddOfAll_13 : decode cX11_oddOfAll 13 = .ok (.if_icmp .ge 24, 3) := by decide +kernel
theorem dX11_oddOfAll_16 : decode cX11_oddOfAll 16 = .ok (.aload_n 0, 1) := by decide +kernel
theorem dX11_oddOfAll_17 : decode cX11_oddOfAll 17 = .ok (.iload_n 2, 1) := by decide +kernel
theorem dX11_oddOfAll_18 : decode cX11_oddOfAll 18 = .ok (.invokevirtual 372, 3) := by decide +kernel
theorem dX11_oddOfAll_21 : decode cX11_oddOfAll 21 = .ok (.iload_n 1, 1) := by decide +kernel
theorem dX11_oddOfAll_22 : decode cX11_oddOfAll 22 = .ok (.aload_n 0, 1) := by decide +kernel
theorem dX11_oddOfAll_23 : decode cX11_oddOfAll 23 = .ok (.getfield 289, 3) := by decide +kernel
theorem dX11_oddOfAll_26 : decode cX11_oddOfAll 26 = .ok (.invokestatic 314, 3) := by decide +kernel
theorem dX11_oddOfAll_29 : decode cX11_oddOfAll 29 = .ok (.iadd, 1) := by decide +kernel
theorem dX11_oddOfAll_30 : decode cX11_oddOfAll 30 = .ok (.istore_n 1, 1) := by decide +kernel
theorem dX11_oddOfAll_31 : decode cX11_oddOfAll 31 = .ok (.iinc 2 1, 3) := by decide +kernel
theorem dX11_oddOfAll_34 : decode cX11_oddOfAll 34 = .ok (.goto (-26), 3) := by decide +kernel
theorem dX11_oddOfAll_37 : decode cX11_oddOfAll 37 = .ok (.iload_n 1, 1) := by decide +kernel
theorem dX11_oddOfAll_38 : decode cX11_oddOfAll 38 = .ok (.ireturn, 1) := by decide +kernel
theorem dX11_blocksOf_0 : decode cX11_blocksOf 0 = .ok (.aload_n 0, 1) := by decide +kernel
theorem dX11_blocksOf_1 : decode cX11_blocksOf 1 = .ok (.invokevirtual 369, 3) := by decide +kernel
theorem dX11_blocksOf_4 : decode cX11_blocksOf 4 = .ok (.iconst 0, 1) := by decide +kernel
theorem dX11_blocksOf_5 : decode cX11_blocksOf 5 = .ok (.istore_n 2, 1) := by decide +kernel
theorem dX11_blocksOf_6 : decode cX11_blocksOf 6 = .ok (.iconst 0, 1) := by decide +kernel
theorem dX11_blocksOf_7 : decode cX11_blocksOf 7 = .ok (.istore_n 3, 1) := by decide +kernel
theorem dX11_blocksOf_8 : decode cX11_blocksOf 8 = .ok (.iload_n 3, 1) := by decide +kernel
theorem dX11_blocksOf_9 : decode cX11_blocksOf 9 = .ok (.aload_n 0, 1) := by decide +kernel
theorem dX11_blocksOf_10 : decode cX11_blocksOf 10 = .ok (.invokevirtual 329, 3) := by decide +kernel
theorem dX11_blocksOf_13 : decode cX11_blocksOf 13 = .ok (.if_icmp .ge 30, 3) := by decide +kernel
theorem dX11_blocksOf_16 : decode cX11_blocksOf 16 = .ok (.aload_n 0, 1) := by decide +kernel
theorem dX11_blocksOf_17 : decode cX11_blocksOf 17 = .ok (.iload_n 3, 1) := by decide +kernel
theorem dX11_blocksOf_18 : decode cX11_blocksOf 18 = .ok (.invokevirtual 372, 3) := by decide +kernel
theorem dX11_blocksOf_21 : decode cX11_blocksOf 21 = .ok (.iload_n 2, 1) := by decide +kernel
theorem dX11_blocksOf_22 : decode cX11_blocksOf 22 = .ok (.aload_n 0, 1) := by decide +kernel
theorem dX11_blocksOf_23 : decode cX11_blocksOf 23 = .ok (.getfield 360, 3) := by decide +kernel
theorem dX11_blocksOf_26 : decode cX11_blocksOf 26 = .ok (.iload_n 1, 1) := by decide +kernel
theorem dX11_blocksOf_27 : decode cX11_blocksOf 27 = .ok (.if_icmp .ne 7, 3) := by decide +kernel
theorem dX11_blocksOf_30 : decode cX11_blocksOf 30 = .ok (.iconst 1, 1) := by decide +kernel
theorem dX11_blocksOf_31 : decode cX11_blocksOf 31 = .ok (.goto 4, 3) := by decide +kernel
theorem dX11_blocksOf_34 : decode cX11_blocksOf 34 = .ok (.iconst 0, 1) := by decide +kernel
theorem dX11_blocksOf_35 : decode cX11_blocksOf 35 = .ok (.iadd, 1) := by decide +kernel
theorem dX11_blocksOf_36 : decode cX11_blocksOf 36 = .ok (.istore_n 2, 1) := by decide +kernel
theorem dX11_blocksOf_37 : decode cX11_blocksOf 37 = .ok (.iinc 3 1, 3) := by decide +kernel
theorem dX11_blocksOf_40 : decode cX11_blocksOf 40 = .ok (.goto (-32), 3) := by decide +kernel
theorem dX11_blocksOf_43 : decode cX11_blocksOf 43 = .ok (.iload_n 2, 1) := by decide +kernel
theorem dX11_blocksOf_44 : decode cX11_blocksOf 44 = .ok (.ireturn, 1) := by decide +kernel
theorem dX11_most_0 : decode cX11_most 0 = .ok (.aload_n 0, 1) := by decide +kernel
theorem dX11_most_1 : decode cX11_most 1 = .ok (.getfield 238, 3) := by decide +kernel
theorem dX11_most_4 : decode cX11_most 4 = .ok (.ifCond .eq 13, 3) := by decide +kernel
theorem dX11_most_7 : decode cX11_most 7 = .ok (.iload_n 1, 1) := by decide +kernel
theorem dX11_most_8 : decode cX11_most 8 = .ok (.iconst 0, 1) := by decide +kernel
theorem dX11_most_9 : decode cX11_most 9 = .ok (.bipush 13, 2) := by decide +kernel
theorem dX11_most_11 : decode cX11_most 11 = .ok (.invokestatic 99, 3) := by decide +kernel
theorem dX11_most_14 : decode cX11_most 14 = .ok (.ifCond .ne 7, 3) := by decide +kernel
theorem dX11_most_17 : decode cX11_most 17 = .ok (.ldc_w 382, 3) := by decide +kernel
theorem dX11_most_20 : decode cX11_most 20 = .ok (.ireturn, 1) := by decide +kernel
theorem dX11_most_21 : decode cX11_most 21 = .ok (.iload_n 1, 1) := by decide +kernel
theorem dX11_most_22 : decode cX11_most 22 = .ok (.tableswitch 119 0 10 #[58, 63, 68, 73, 79, 84, 90, 96, 102, 108, 113], 58) := by decide +kernel
theorem dX11_most_80 : decode cX11_most 80 = .ok (.aload_n 0, 1) := by decide +kernel
theorem dX11_most_81 : decode cX11_most 81 = .ok (.invokevirtual 329, 3) := by decide +kernel
theorem dX11_most_84 : decode cX11_most 84 = .ok (.ireturn, 1) := by decide +kernel
theorem dX11_most_85 : decode cX11_most 85 = .ok (.aload_n 0, 1) := by decide +kernel
theorem dX11_most_86 : decode cX11_most 86 = .ok (.invokevirtual 452, 3) := by decide +kernel
theorem dX11_most_89 : decode cX11_most 89 = .ok (.ireturn, 1) := by decide +kernel
theorem dX11_most_90 : decode cX11_most 90 = .ok (.aload_n 0, 1) := by decide +kernel
theorem dX11_most_91 : decode cX11_most 91 = .ok (.invokevirtual 461, 3) := by decide +kernel
theorem dX11_most_94 : decode cX11_most 94 = .ok (.ireturn, 1) := by decide +kernel
theorem dX11_most_95 : decode cX11_most 95 = .ok (.aload_n 0, 1) := by decide +kernel
theorem dX11_most_96 : decode cX11_most 96 = .ok (.iconst 0, 1) := by decide +kernel
theorem dX11_most_97 : decode cX11_most 97 = .ok (.invokevirtual 464, 3) := by decide +kernel
theorem dX11_most_100 : decode cX11_most 100 = .ok (.ireturn, 1) := by decide +kernel
theorem dX11_most_101 : decode cX11_most 101 = .ok (.aload_n 0, 1) := by decide +kernel
theorem dX11_most_102 : decode cX11_most 102 = .ok (.invokevirtual 467, 3) := by decide +kernel
theorem dX11_most_105 : decode cX11_most 105 = .ok (.ireturn, 1) := by decide +kernel
theorem dX11_most_106 : decode cX11_most 106 = .ok (.aload_n 0, 1) := by decide +kernel
theorem dX11_most_107 : decode cX11_most 107 = .ok (.iconst 0, 1) := by decide +kernel
theorem dX11_most_108 : decode cX11_most 108 = .ok (.invokevirtual 470, 3) := by decide +kernel
theorem dX11_most_111 : decode cX11_most 111 = .ok (.ireturn, 1) := by decide +kernel
theorem dX11_most_112 : decode cX11_most 112 = .ok (.aload_n 0, 1) := by decide +kernel
theorem dX11_most_113 : decode cX11_most 113 = .ok (.iconst 1, 1) := by decide +kernel
theorem dX11_most_114 : decode cX11_most 114 = .ok (.invokevirtual 470, 3) := by decide +kernel
theorem dX11_most_117 : decode cX11_most 117 = .ok (.ireturn, 1) := by decide +kernel
theorem dX11_most_118 : decode cX11_most 118 = .ok (.aload_n 0, 1) := by decide +kernel
theorem dX11_most_119 : decode cX11_most 119 = .ok (.iconst 1, 1) := by decide +kernel
theorem dX11_most_120 : decode cX11_most 120 = .ok (.invokevirtual 464, 3) := by decide +kernel
theorem dX11_most_123 : decode cX11_most 123 = .ok (.ireturn, 1) := by decide +kernel
theorem dX11_most_124 : decode cX11_most 124 = .ok (.aload_n 0, 1) := by decide +kernel
theorem dX11_most_125 : decode cX11_most 125 = .ok (.iconst 2, 1) := by decide +kernel
theorem dX11_most_126 : decode cX11_most 126 = .ok (.invokevirtual 470, 3) := by decide +kernel
theorem dX11_most_129 : decode cX11_most 129 = .ok (.ireturn, 1) := by decide +kernel
theorem dX11_most_130 : decode cX11_most 130 = .ok (.aload_n 0, 1) := by decide +kernel
theorem dX11_most_131 : decode cX11_most 131 = .ok (.invokevirtual 473, 3) := by decide +kernel
theorem dX11_most_134 : decode cX11_most 134 = .ok (.ireturn, 1) := by decide +kernel
theorem dX11_most_135 : decode cX11_most 135 = .ok (.aload_n 0, 1) := by decide +kernel
theorem dX11_most_136 : decode cX11_most 136 = .ok (.iconst 2, 1) := by decide +kernel
theorem dX11_most_137 : decode cX11_most 137 = .ok (.invokevirtual 464, 3) := by decide +kernel
theorem dX11_most_140 : decode cX11_most 140 = .ok (.ireturn, 1) := by decide +kernel
theorem dX11_most_141 : decode cX11_most 141 = .ok (.aload_n 0, 1) := by decide +kernel
theorem dX11_most_142 : decode cX11_most 142 = .ok (.iload_n 1, 1) := by decide +kernel
theorem dX11_most_143 : decode cX11_most 143 = .ok (.bipush 11, 2) := by decide +kernel
theorem dX11_most_145 : decode cX11_most 145 = .ok (.isub, 1) := by decide +kernel
theorem dX11_most_146 : decode cX11_most 146 = .ok (.invokevirtual 476, 3) := by decide +kernel
theorem dX11_most_149 : decode cX11_most 149 = .ok (.ireturn, 1) := by decide +kernel
theorem dX11_image_0 : decode cX11_image 0 = .ok (.aload_n 0, 1) := by decide +kernel
theorem dX11_image_1 : decode cX11_image 1 = .ok (.getfield 238, 3) := by decide +kernel
theorem dX11_image_4 : decode cX11_image 4 = .ok (.ifCond .ne 5, 3) := by decide +kernel
theorem dX11_image_7 : decode cX11_image 7 = .ok (.iconst (-1), 1) := by decide +kernel
theorem dX11_image_8 : decode cX11_image 8 = .ok (.ireturn, 1) := by decide +kernel
theorem dX11_image_9 : decode cX11_image 9 = .ok (.iconst 0, 1) := by decide +kernel
theorem dX11_image_10 : decode cX11_image 10 = .ok (.istore_n 1, 1) := by decide +kernel
theorem dX11_image_11 : decode cX11_image 11 = .ok (.iload_n 1, 1) := by decide +kernel
theorem dX11_image_12 : decode cX11_image 12 = .ok (.bipush 64, 2) := by decide +kernel
theorem dX11_image_14 : decode cX11_image 14 = .ok (.if_icmp .ge 21, 3) := by decide +kernel
theorem dX11_image_17 : decode cX11_image 17 = .ok (.aload_n 0, 1) := by decide +kernel
theorem dX11_image_18 : decode cX11_image 18 = .ok (.getfield 81, 3) := by decide +kernel
theorem dX11_image_21 : decode cX11_image 21 = .ok (.iload_n 1, 1) := by decide +kernel
theorem dX11_image_22 : decode cX11_image 22 = .ok (.aload_n 0, 1) := by decide +kernel
theorem dX11_image_23 : decode cX11_image 23 = .ok (.getfield 33, 3) := by decide +kernel
theorem dX11_image_26 : decode cX11_image 26 = .ok (.iload_n 1, 1) := by decide +kernel
theorem dX11_image_27 : decode cX11_image 27 = .ok (.laload, 1) := by decide +kernel
theorem dX11_image_28 : decode cX11_image 28 = .ok (.lastore, 1) := by decide +kernel
theorem dX11_image_29 : decode cX11_image 29 = .ok (.iinc 1 1, 3) := by decide +kernel
theorem dX11_image_32 : decode cX11_image 32 = .ok (.goto (-21), 3) := by decide +kernel
theorem dX11_image_35 : decode cX11_image 35 = .ok (.iconst 0, 1) := by decide +kernel
theorem dX11_image_36 : decode cX11_image 36 = .ok (.istore_n 1, 1) := by decide +kernel
theorem dX11_image_37 : decode cX11_image 37 = .ok (.iload_n 1, 1) := by decide +kernel
theorem dX11_image_38 : decode cX11_image 38 = .ok (.iconst 5, 1) := by decide +kernel
theorem dX11_image_39 : decode cX11_image 39 = .ok (.if_icmp .ge 21, 3) := by decide +kernel
theorem dX11_image_42 : decode cX11_image 42 = .ok (.aload_n 0, 1) := by decide +kernel
theorem dX11_image_43 : decode cX11_image 43 = .ok (.getfield 84, 3) := by decide +kernel
theorem dX11_image_46 : decode cX11_image 46 = .ok (.iload_n 1, 1) := by decide +kernel
theorem dX11_image_47 : decode cX11_image 47 = .ok (.aload_n 0, 1) := by decide +kernel
theorem dX11_image_48 : decode cX11_image 48 = .ok (.getfield 36, 3) := by decide +kernel
theorem dX11_image_51 : decode cX11_image 51 = .ok (.iload_n 1, 1) := by decide +kernel
theorem dX11_image_52 : decode cX11_image 52 = .ok (.iaload, 1) := by decide +kernel
theorem dX11_image_53 : decode cX11_image 53 = .ok (.iastore, 1) := by decide +kernel
theorem dX11_image_54 : decode cX11_image 54 = .ok (.iinc 1 1, 3) := by decide +kernel
theorem dX11_image_57 : decode cX11_image 57 = .ok (.goto (-20), 3) := by decide +kernel
theorem dX11_image_60 : decode cX11_image 60 = .ok (.iconst 0, 1) := by decide +kernel
theorem dX11_image_61 : decode cX11_image 61 = .ok (.istore_n 1, 1) := by decide +kernel
theorem dX11_image_62 : decode cX11_image 62 = .ok (.iload_n 1, 1) := by decide +kernel
theorem dX11_image_63 : decode cX11_image 63 = .ok (.sipush 180, 3) := by decide +kernel
theorem dX11_image_66 : decode cX11_image 66 = .ok (.if_icmp .ge 21, 3) := by decide +kernel
theorem dX11_image_69 : decode cX11_image 69 = .ok (.aload_n 0, 1) := by decide +kernel
theorem dX11_image_70 : decode cX11_image 70 = .ok (.getfield 87, 3) := by decide +kernel
theorem dX11_image_73 : decode cX11_image 73 = .ok (.iload_n 1, 1) := by decide +kernel
theorem dX11_image_74 : decode cX11_image 74 = .ok (.aload_n 0, 1) := by decide +kernel
theorem dX11_image_75 : decode cX11_image 75 = .ok (.getfield 39, 3) := by decide +kernel
theorem dX11_image_78 : decode cX11_image 78 = .ok (.iload_n 1, 1) := by decide +kernel
theorem dX11_image_79 : decode cX11_image 79 = .ok (.iaload, 1) := by decide +kernel
theorem dX11_image_80 : decode cX11_image 80 = .ok (.iastore, 1) := by decide +kernel
theorem dX11_image_81 : decode cX11_image 81 = .ok (.iinc 1 1, 3) := by decide +kernel
theorem dX11_image_84 : decode cX11_image 84 = .ok (.goto (-22), 3) := by decide +kernel
theorem dX11_image_87 : decode cX11_image 87 = .ok (.aload_n 0, 1) := by decide +kernel
theorem dX11_image_88 : decode cX11_image 88 = .ok (.aload_n 0, 1) := by decide +kernel
theorem dX11_image_89 : decode cX11_image 89 = .ok (.getfield 242, 3) := by decide +kernel
theorem dX11_image_92 : decode cX11_image 92 = .ok (.putfield 479, 3) := by decide +kernel
theorem dX11_image_95 : decode cX11_image 95 = .ok (.aload_n 0, 1) := by decide +kernel
theorem dX11_image_96 : decode cX11_image 96 = .ok (.aload_n 0, 1) := by decide +kernel
theorem dX11_image_97 : decode cX11_image 97 = .ok (.getfield 245, 3) := by decide +kernel
theorem dX11_image_100 : decode cX11_image 100 = .ok (.putfield 482, 3) := by decide +kernel
theorem dX11_image_103 : decode cX11_image 103 = .ok (.aload_n 0, 1) := by decide +kernel
theorem dX11_image_104 : decode cX11_image 104 = .ok (.iconst 1, 1) := by decide +kernel
theorem dX11_image_105 : decode cX11_image 105 = .ok (.putfield 254, 3) := by decide +kernel
theorem dX11_image_108 : decode cX11_image 108 = .ok (.aload_n 0, 1) := by decide +kernel
theorem dX11_image_109 : decode cX11_image 109 = .ok (.getfield 242, 3) := by decide +kernel
theorem dX11_image_112 : decode cX11_image 112 = .ok (.ireturn, 1) := by decide +kernel
theorem dX11_back_0 : decode cX11_back 0 = .ok (.aload_n 0, 1) := by decide +kernel
theorem dX11_back_1 : decode cX11_back 1 = .ok (.getfield 254, 3) := by decide +kernel
theorem dX11_back_4 : decode cX11_back 4 = .ok (.ifCond .ne 5, 3) := by decide +kernel
theorem dX11_back_7 : decode cX11_back 7 = .ok (.iconst (-1), 1) := by decide +kernel
theorem dX11_back_8 : decode cX11_back 8 = .ok (.ireturn, 1) := by decide +kernel
theorem dX11_back_9 : decode cX11_back 9 = .ok (.iconst 0, 1) := by decide +kernel
theorem dX11_back_10 : decode cX11_back 10 = .ok (.istore_n 1, 1) := by decide +kernel
theorem dX11_back_11 : decode cX11_back 11 = .ok (.iload_n 1, 1) := by decide +kernel
theorem dX11_back_12 : decode cX11_back 12 = .ok (.bipush 64, 2) := by decide +kernel
theorem dX11_back_14 : decode cX11_back 14 = .ok (.if_icmp .ge 21, 3) := by decide +kernel
theorem dX11_back_17 : decode cX11_back 17 = .ok (.aload_n 0, 1) := by decide +kernel
theorem dX11_back_18 : decode cX11_back 18 = .ok (.getfield 33, 3) := by decide +kernel
theorem dX11_back_21 : decode cX11_back 21 = .ok (.iload_n 1, 1) := by decide +kernel
theorem dX11_back_22 : decode cX11_back 22 = .ok (.aload_n 0, 1) := by decide +kernel
theorem dX11_back_23 : decode cX11_back 23 = .ok (.getfield 81, 3) := by decide +kernel
theorem dX11_back_26 : decode cX11_back 26 = .ok (.iload_n 1, 1) := by decide +kernel
theorem dX11_back_27 : decode cX11_back 27 = .ok (.laload, 1) := by decide +kernel
theorem dX11_back_28 : decode cX11_back 28 = .ok (.lastore, 1) := by decide +kernel
theorem dX11_back_29 : decode cX11_back 29 = .ok (.iinc 1 1, 3) := by decide +kernel
theorem dX11_back_32 : decode cX11_back 32 = .ok (.goto (-21), 3) := by decide +kernel
theorem dX11_back_35 : decode cX11_back 35 = .ok (.iconst 0, 1) := by decide +kernel
theorem dX11_back_36 : decode cX11_back 36 = .ok (.istore_n 1, 1) := by decide +kernel
theorem dX11_back_37 : decode cX11_back 37 = .ok (.iload_n 1, 1) := by decide +kernel
theorem dX11_back_38 : decode cX11_back 38 = .ok (.iconst 5, 1) := by decide +kernel
theorem dX11_back_39 : decode cX11_back 39 = .ok (.if_icmp .ge 21, 3) := by decide +kernel
theorem dX11_back_42 : decode cX11_back 42 = .ok (.aload_n 0, 1) := by decide +kernel
theorem dX11_back_43 : decode cX11_back 43 = .ok (.getfield 36, 3) := by decide +kernel
theorem dX11_back_46 : decode cX11_back 46 = .ok (.iload_n 1, 1) := by decide +kernel
theorem dX11_back_47 : decode cX11_back 47 = .ok (.aload_n 0, 1) := by decide +kernel
theorem dX11_back_48 : decode cX11_back 48 = .ok (.getfield 84, 3) := by decide +kernel
theorem dX11_back_51 : decode cX11_back 51 = .ok (.iload_n 1, 1) := by decide +kernel
theorem dX11_back_52 : decode cX11_back 52 = .ok (.iaload, 1) := by decide +kernel
theorem dX11_back_53 : decode cX11_back 53 = .ok (.iastore, 1) := by decide +kernel
theorem dX11_back_54 : decode cX11_back 54 = .ok (.iinc 1 1, 3) := by decide +kernel
theorem dX11_back_57 : decode cX11_back 57 = .ok (.goto (-20), 3) := by decide +kernel
theorem dX11_back_60 : decode cX11_back 60 = .ok (.iconst 0, 1) := by decide +kernel
theorem dX11_back_61 : decode cX11_back 61 = .ok (.istore_n 1, 1) := by decide +kernel
theorem dX11_back_62 : decode cX11_back 62 = .ok (.iload_n 1, 1) := by decide +kernel
theorem dX11_back_63 : decode cX11_back 63 = .ok (.sipush 180, 3) := by decide +kernel
theorem dX11_back_66 : decode cX11_back 66 = .ok (.if_icmp .ge 21, 3) := by decide +kernel
theorem dX11_back_69 : decode cX11_back 69 = .ok (.aload_n 0, 1) := by decide +kernel
theorem dX11_back_70 : decode cX11_back 70 = .ok (.getfield 39, 3) := by decide +kernel
theorem dX11_back_73 : decode cX11_back 73 = .ok (.iload_n 1, 1) := by decide +kernel
theorem dX11_back_74 : decode cX11_back 74 = .ok (.aload_n 0, 1) := by decide +kernel
theorem dX11_back_75 : decode cX11_back 75 = .ok (.getfield 87, 3) := by decide +kernel
theorem dX11_back_78 : decode cX11_back 78 = .ok (.iload_n 1, 1) := by decide +kernel
theorem dX11_back_79 : decode cX11_back 79 = .ok (.iaload, 1) := by decide +kernel
theorem dX11_back_80 : decode cX11_back 80 = .ok (.iastore, 1) := by decide +kernel
theorem dX11_back_81 : decode cX11_back 81 = .ok (.iinc 1 1, 3) := by decide +kernel
theorem dX11_back_84 : decode cX11_back 84 = .ok (.goto (-22), 3) := by decide +kernel
theorem dX11_back_87 : decode cX11_back 87 = .ok (.aload_n 0, 1) := by decide +kernel
theorem dX11_back_88 : decode cX11_back 88 = .ok (.aload_n 0, 1) := by decide +kernel
theorem dX11_back_89 : decode cX11_back 89 = .ok (.getfield 479, 3) := by decide +kernel
theorem dX11_back_92 : decode cX11_back 92 = .ok (.putfield 242, 3) := by decide +kernel
theorem dX11_back_95 : decode cX11_back 95 = .ok (.aload_n 0, 1) := by decide +kernel
theorem dX11_back_96 : decode cX11_back 96 = .ok (.aload_n 0, 1) := by decide +kernel
theorem dX11_back_97 : decode cX11_back 97 = .ok (.getfield 482, 3) := by decide +kernel
theorem dX11_back_100 : decode cX11_back 100 = .ok (.putfield 245, 3) := by decide +kernel
theorem dX11_back_103 : decode cX11_back 103 = .ok (.aload_n 0, 1) := by decide +kernel
theorem dX11_back_104 : decode cX11_back 104 = .ok (.iconst 0, 1) := by decide +kernel
theorem dX11_back_105 : decode cX11_back 105 = .ok (.putfield 248, 3) := by decide +kernel
theorem dX11_back_108 : decode cX11_back 108 = .ok (.aload_n 0, 1) := by decide +kernel
theorem dX11_back_109 : decode cX11_back 109 = .ok (.getfield 242, 3) := by decide +kernel
theorem dX11_back_112 : decode cX11_back 112 = .ok (.ireturn, 1) := by decide +kernel
theorem dX11_count_0 : decode cX11_count 0 = .ok (.iload_n 1, 1) := by decide +kernel
theorem dX11_count_1 : decode cX11_count 1 = .ok (.tableswitch 60 0 4 #[35, 40, 45, 50, 55], 35) := by decide +kernel
theorem dX11_count_36 : decode cX11_count 36 = .ok (.aload_n 0, 1) := by decide +kernel
theorem dX11_count_37 : decode cX11_count 37 = .ok (.getfield 242, 3) := by decide +kernel
theorem dX11_count_40 : decode cX11_count 40 = .ok (.ireturn, 1) := by decide +kernel
theorem dX11_count_41 : decode cX11_count 41 = .ok (.aload_n 0, 1) := by decide +kernel
theorem dX11_count_42 : decode cX11_count 42 = .ok (.getfield 96, 3) := by decide +kernel
theorem dX11_count_45 : decode cX11_count 45 = .ok (.ireturn, 1) := by decide +kernel
theorem dX11_count_46 : decode cX11_count 46 = .ok (.aload_n 0, 1) := by decide +kernel
theorem dX11_count_47 : decode cX11_count 47 = .ok (.getfield 251, 3) := by decide +kernel
theorem dX11_count_50 : decode cX11_count 50 = .ok (.ireturn, 1) := by decide +kernel
theorem dX11_count_51 : decode cX11_count 51 = .ok (.aload_n 0, 1) := by decide +kernel
theorem dX11_count_52 : decode cX11_count 52 = .ok (.getfield 245, 3) := by decide +kernel
theorem dX11_count_55 : decode cX11_count 55 = .ok (.ireturn, 1) := by decide +kernel
theorem dX11_count_56 : decode cX11_count 56 = .ok (.aload_n 0, 1) := by decide +kernel
theorem dX11_count_57 : decode cX11_count 57 = .ok (.getfield 248, 3) := by decide +kernel
theorem dX11_count_60 : decode cX11_count 60 = .ok (.ireturn, 1) := by decide +kernel
theorem dX11_count_61 : decode cX11_count 61 = .ok (.ldc_w 382, 3) := by decide +kernel
theorem dX11_count_64 : decode cX11_count 64 = .ok (.ireturn, 1) := by decide +kernel
