theorem dX8_init_0 : decode cX8_init 0 = .ok (.aload_n 0, 1) := by decide +kernel
theorem dX8_init_1 : decode cX8_init 1 = .ok (.invokespecial 3, 3) := by decide +kernel
theorem dX8_init_4 : decode cX8_init 4 = .ok (.aload_n 0, 1) := by decide +kernel
theorem dX8_init_5 : decode cX8_init 5 = .ok (.iconst 5, 1) := by decide +kernel
theorem dX8_init_6 : decode cX8_init 6 = .ok (.newarray .int, 2) := by decide +kernel
theorem dX8_init_8 : decode cX8_init 8 = .ok (.putfield 9, 3) := by decide +kernel
theorem dX8_init_11 : decode cX8_init 11 = .ok (.aload_n 0, 1) := by decide +kernel
theorem dX8_init_12 : decode cX8_init 12 = .ok (.bipush 64, 2) := by decide +kernel
theorem dX8_init_14 : decode cX8_init 14 = .ok (.newarray .int, 2) := by decide +kernel
theorem dX8_init_16 : decode cX8_init 16 = .ok (.putfield 15, 3) := by decide +kernel
theorem dX8_init_19 : decode cX8_init 19 = .ok (.aload_n 0, 1) := by decide +kernel
theorem dX8_init_20 : decode cX8_init 20 = .ok (.iconst 5, 1) := by decide +kernel
theorem dX8_init_21 : decode cX8_init 21 = .ok (.newarray .int, 2) := by decide +kernel
theorem dX8_init_23 : decode cX8_init 23 = .ok (.putfield 18, 3) := by decide +kernel
theorem dX8_init_26 : decode cX8_init 26 = .ok (.aload_n 0, 1) := by decide +kernel
theorem dX8_init_27 : decode cX8_init 27 = .ok (.iconst 5, 1) := by decide +kernel
theorem dX8_init_28 : decode cX8_init 28 = .ok (.newarray .int, 2) := by decide +kernel
theorem dX8_init_30 : decode cX8_init 30 = .ok (.putfield 21, 3) := by decide +kernel
theorem dX8_init_33 : decode cX8_init 33 = .ok (.aload_n 0, 1) := by decide +kernel
theorem dX8_init_34 : decode cX8_init 34 = .ok (.new 24, 3) := by decide +kernel
theorem dX8_init_37 : decode cX8_init 37 = .ok (.dup, 1) := by decide +kernel
theorem dX8_init_38 : decode cX8_init 38 = .ok (.invokespecial 26, 3) := by decide +kernel
theorem dX8_init_41 : decode cX8_init 41 = .ok (.putfield 27, 3) := by decide +kernel
theorem dX8_init_44 : decode cX8_init 44 = .ok (.aload_n 0, 1) := by decide +kernel
theorem dX8_init_45 : decode cX8_init 45 = .ok (.aload_n 1, 1) := by decide +kernel
theorem dX8_init_46 : decode cX8_init 46 = .ok (.putfield 31, 3) := by decide +kernel
theorem dX8_init_49 : decode cX8_init 49 = .ok (.aload_n 0, 1) := by decide +kernel
theorem dX8_init_50 : decode cX8_init 50 = .ok (.aload_n 2, 1) := by decide +kernel
theorem dX8_init_51 : decode cX8_init 51 = .ok (.putfield 35, 3) := by decide +kernel
theorem dX8_init_54 : decode cX8_init 54 = .ok (.aload_n 0, 1) := by decide +kernel
theorem dX8_init_55 : decode cX8_init 55 = .ok (.invokevirtual 39, 3) := by decide +kernel
theorem dX8_init_58 : decode cX8_init 58 = .ok (.return_, 1) := by decide +kernel
theorem dX8_lay_0 : decode cX8_lay 0 = .ok (.aload_n 0, 1) := by decide +kernel
theorem dX8_lay_1 : decode cX8_lay 1 = .ok (.getfield 35, 3) := by decide +kernel
theorem dX8_lay_4 : decode cX8_lay 4 = .ok (.getfield 42, 3) := by decide +kernel
theorem dX8_lay_7 : decode cX8_lay 7 = .ok (.iconst 0, 1) := by decide +kernel
theorem dX8_lay_8 : decode cX8_lay 8 = .ok (.aload_n 0, 1) := by decide +kernel
theorem dX8_lay_9 : decode cX8_lay 9 = .ok (.getfield 9, 3) := by decide +kernel
theorem dX8_lay_12 : decode cX8_lay 12 = .ok (.iconst 0, 1) := by decide +kernel
theorem dX8_lay_13 : decode cX8_lay 13 = .ok (.iconst 5, 1) := by decide +kernel
theorem dX8_lay_14 : decode cX8_lay 14 = .ok (.invokestatic 45, 3) := by decide +kernel
theorem dX8_lay_17 : decode cX8_lay 17 = .ok (.aload_n 0, 1) := by decide +kernel
theorem dX8_lay_18 : decode cX8_lay 18 = .ok (.aload_n 0, 1) := by decide +kernel
theorem dX8_lay_19 : decode cX8_lay 19 = .ok (.getfield 35, 3) := by decide +kernel
theorem dX8_lay_22 : decode cX8_lay 22 = .ok (.getfield 51, 3) := by decide +kernel
theorem dX8_lay_25 : decode cX8_lay 25 = .ok (.putfield 55, 3) := by decide +kernel
theorem dX8_lay_28 : decode cX8_lay 28 = .ok (.iconst 0, 1) := by decide +kernel
theorem dX8_lay_29 : decode cX8_lay 29 = .ok (.istore_n 1, 1) := by decide +kernel
theorem dX8_lay_30 : decode cX8_lay 30 = .ok (.iload_n 1, 1) := by decide +kernel
theorem dX8_lay_31 : decode cX8_lay 31 = .ok (.aload_n 0, 1) := by decide +kernel
theorem dX8_lay_32 : decode cX8_lay 32 = .ok (.getfield 55, 3) := by decide +kernel
theorem dX8_lay_35 : decode cX8_lay 35 = .ok (.if_icmp .ge 16, 3) := by decide +kernel
theorem dX8_lay_38 : decode cX8_lay 38 = .ok (.aload_n 0, 1) := by decide +kernel
theorem dX8_lay_39 : decode cX8_lay 39 = .ok (.getfield 15, 3) := by decide +kernel
theorem dX8_lay_42 : decode cX8_lay 42 = .ok (.iload_n 1, 1) := by decide +kernel
theorem dX8_lay_43 : decode cX8_lay 43 = .ok (.iload_n 1, 1) := by decide +kernel
theorem dX8_lay_44 : decode cX8_lay 44 = .ok (.iastore, 1) := by decide +kernel
theorem dX8_lay_45 : decode cX8_lay 45 = .ok (.iinc 1 1, 3) := by decide +kernel
theorem dX8_lay_48 : decode cX8_lay 48 = .ok (.goto (-18), 3) := by decide +kernel
theorem dX8_lay_51 : decode cX8_lay 51 = .ok (.return_, 1) := by decide +kernel
theorem dX8_leaveOut_0 : decode cX8_leaveOut 0 = .ok (.aload_n 0, 1) := by decide +kernel
theorem dX8_leaveOut_1 : decode cX8_leaveOut 1 = .ok (.dup, 1) := by decide +kernel
theorem dX8_leaveOut_2 : decode cX8_leaveOut 2 = .ok (.getfield 55, 3) := by decide +kernel
theorem dX8_leaveOut_5 : decode cX8_leaveOut 5 = .ok (.iconst 1, 1) := by decide +kernel
theorem dX8_leaveOut_6 : decode cX8_leaveOut 6 = .ok (.isub, 1) := by decide +kernel
theorem dX8_leaveOut_7 : decode cX8_leaveOut 7 = .ok (.putfield 55, 3) := by decide +kernel
theorem dX8_leaveOut_10 : decode cX8_leaveOut 10 = .ok (.iload_n 1, 1) := by decide +kernel
theorem dX8_leaveOut_11 : decode cX8_leaveOut 11 = .ok (.istore_n 2, 1) := by decide +kernel
theorem dX8_leaveOut_12 : decode cX8_leaveOut 12 = .ok (.iload_n 2, 1) := by decide +kernel
theorem dX8_leaveOut_13 : decode cX8_leaveOut 13 = .ok (.aload_n 0, 1) := by decide +kernel
theorem dX8_leaveOut_14 : decode cX8_leaveOut 14 = .ok (.getfield 55, 3) := by decide +kernel
theorem dX8_leaveOut_17 : decode cX8_leaveOut 17 = .ok (.if_icmp .ge 18, 3) := by decide +kernel
theorem dX8_leaveOut_20 : decode cX8_leaveOut 20 = .ok (.aload_n 0, 1) := by decide +kernel
theorem dX8_leaveOut_21 : decode cX8_leaveOut 21 = .ok (.getfield 15, 3) := by decide +kernel
theorem dX8_leaveOut_24 : decode cX8_leaveOut 24 = .ok (.iload_n 2, 1) := by decide +kernel
theorem dX8_leaveOut_25 : decode cX8_leaveOut 25 = .ok (.iload_n 2, 1) := by decide +kernel
theorem dX8_leaveOut_26 : decode cX8_leaveOut 26 = .ok (.iconst 1, 1) := by decide +kernel
theorem dX8_leaveOut_27 : decode cX8_leaveOut 27 = .ok (.iadd, 1) := by decide +kernel
theorem dX8_leaveOut_28 : decode cX8_leaveOut 28 = .ok (.iastore, 1) := by decide +kernel
theorem dX8_leaveOut_29 : decode cX8_leaveOut 29 = .ok (.iinc 2 1, 3) := by decide +kernel
theorem dX8_leaveOut_32 : decode cX8_leaveOut 32 = .ok (.goto (-20), 3) := by decide +kernel
theorem dX8_leaveOut_35 : decode cX8_leaveOut 35 = .ok (.return_, 1) := by decide +kernel
theorem dX8_blocks_0 : decode cX8_blocks 0 = .ok (.aload_n 0, 1) := by decide +kernel
theorem dX8_blocks_1 : decode cX8_blocks 1 = .ok (.getfield 55, 3) := by decide +kernel
theorem dX8_blocks_4 : decode cX8_blocks 4 = .ok (.aload_n 0, 1) := by decide +kernel
theorem dX8_blocks_5 : decode cX8_blocks 5 = .ok (.getfield 9, 3) := by decide +kernel
theorem dX8_blocks_8 : decode cX8_blocks 8 = .ok (.iconst 0, 1) := by decide +kernel
theorem dX8_blocks_9 : decode cX8_blocks 9 = .ok (.iaload, 1) := by decide +kernel
theorem dX8_blocks_10 : decode cX8_blocks 10 = .ok (.invokestatic 56, 3) := by decide +kernel
theorem dX8_blocks_13 : decode cX8_blocks 13 = .ok (.ireturn, 1) := by decide +kernel
theorem dX8_blockAt_0 : decode cX8_blockAt 0 = .ok (.aload_n 0, 1) := by decide +kernel
theorem dX8_blockAt_1 : decode cX8_blockAt 1 = .ok (.getfield 9, 3) := by decide +kernel
theorem dX8_blockAt_4 : decode cX8_blockAt 4 = .ok (.iconst 0, 1) := by decide +kernel
theorem dX8_blockAt_5 : decode cX8_blockAt 5 = .ok (.iaload, 1) := by decide +kernel
theorem dX8_blockAt_6 : decode cX8_blockAt 6 = .ok (.ifCond .le 14, 3) := by decide +kernel
theorem dX8_blockAt_9 : decode cX8_blockAt 9 = .ok (.iload_n 1, 1) := by decide +kernel
theorem dX8_blockAt_10 : decode cX8_blockAt 10 = .ok (.aload_n 0, 1) := by decide +kernel
theorem dX8_blockAt_11 : decode cX8_blockAt 11 = .ok (.getfield 9, 3) := by decide +kernel
theorem dX8_blockAt_14 : decode cX8_blockAt 14 = .ok (.iconst 0, 1) := by decide +kernel
theorem dX8_blockAt_15 : decode cX8_blockAt 15 = .ok (.iaload, 1) := by decide +kernel
theorem dX8_blockAt_16 : decode cX8_blockAt 16 = .ok (.idiv, 1) := by decide +kernel
theorem dX8_blockAt_17 : decode cX8_blockAt 17 = .ok (.goto 4, 3) := by decide +kernel
theorem dX8_blockAt_20 : decode cX8_blockAt 20 = .ok (.iconst 0, 1) := by decide +kernel
theorem dX8_blockAt_21 : decode cX8_blockAt 21 = .ok (.ireturn, 1) := by decide +kernel
theorem dX8_startOf_0 : decode cX8_startOf 0 = .ok (.iload_n 1, 1) := by decide +kernel
theorem dX8_startOf_1 : decode cX8_startOf 1 = .ok (.aload_n 0, 1) := by decide +kernel
theorem dX8_startOf_2 : decode cX8_startOf 2 = .ok (.getfield 9, 3) := by decide +kernel
theorem dX8_startOf_5 : decode cX8_startOf 5 = .ok (.iconst 0, 1) := by decide +kernel
theorem dX8_startOf_6 : decode cX8_startOf 6 = .ok (.iaload, 1) := by decide +kernel
theorem dX8_startOf_7 : decode cX8_startOf 7 = .ok (.imul, 1) := by decide +kernel
theorem dX8_startOf_8 : decode cX8_startOf 8 = .ok (.ireturn, 1) := by decide +kernel
theorem dX8_sizeOf_0 : decode cX8_sizeOf 0 = .ok (.aload_n 0, 1) := by decide +kernel
theorem dX8_sizeOf_1 : decode cX8_sizeOf 1 = .ok (.getfield 55, 3) := by decide +kernel
theorem dX8_sizeOf_4 : decode cX8_sizeOf 4 = .ok (.aload_n 0, 1) := by decide +kernel
theorem dX8_sizeOf_5 : decode cX8_sizeOf 5 = .ok (.iload_n 1, 1) := by decide +kernel
theorem dX8_sizeOf_6 : decode cX8_sizeOf 6 = .ok (.invokevirtual 60, 3) := by decide +kernel
theorem dX8_sizeOf_9 : decode cX8_sizeOf 9 = .ok (.isub, 1) := by decide +kernel
theorem dX8_sizeOf_10 : decode cX8_sizeOf 10 = .ok (.istore_n 2, 1) := by decide +kernel
theorem dX8_sizeOf_11 : decode cX8_sizeOf 11 = .ok (.iload_n 2, 1) := by decide +kernel
theorem dX8_sizeOf_12 : decode cX8_sizeOf 12 = .ok (.aload_n 0, 1) := by decide +kernel
theorem dX8_sizeOf_13 : decode cX8_sizeOf 13 = .ok (.getfield 9, 3) := by decide +kernel
theorem dX8_sizeOf_16 : decode cX8_sizeOf 16 = .ok (.iconst 0, 1) := by decide +kernel
theorem dX8_sizeOf_17 : decode cX8_sizeOf 17 = .ok (.iaload, 1) := by decide +kernel
theorem dX8_sizeOf_18 : decode cX8_sizeOf 18 = .ok (.if_icmp .ge 7, 3) := by decide +kernel
theorem dX8_sizeOf_21 : decode cX8_sizeOf 21 = .ok (.iload_n 2, 1) := by decide +kernel
theorem dX8_sizeOf_22 : decode cX8_sizeOf 22 = .ok (.goto 9, 3) := by decide +kernel
theorem dX8_sizeOf_25 : decode cX8_sizeOf 25 = .ok (.aload_n 0, 1) := by decide +kernel
theorem dX8_sizeOf_26 : decode cX8_sizeOf 26 = .ok (.getfield 9, 3) := by decide +kernel
theorem dX8_sizeOf_29 : decode cX8_sizeOf 29 = .ok (.iconst 0, 1) := by decide +kernel
theorem dX8_sizeOf_30 : decode cX8_sizeOf 30 = .ok (.iaload, 1) := by decide +kernel
theorem dX8_sizeOf_31 : decode cX8_sizeOf 31 = .ok (.ireturn, 1) := by decide +kernel
theorem dX8_bitsAt_0 : decode cX8_bitsAt 0 = .ok (.aload_n 0, 1) := by decide +kernel
theorem dX8_bitsAt_1 : decode cX8_bitsAt 1 = .ok (.getfield 35, 3) := by decide +kernel
theorem dX8_bitsAt_4 : decode cX8_bitsAt 4 = .ok (.getfield 64, 3) := by decide +kernel
theorem dX8_bitsAt_7 : decode cX8_bitsAt 7 = .ok (.aload_n 0, 1) := by decide +kernel
theorem dX8_bitsAt_8 : decode cX8_bitsAt 8 = .ok (.getfield 15, 3) := by decide +kernel
theorem dX8_bitsAt_11 : decode cX8_bitsAt 11 = .ok (.iload_n 1, 1) := by decide +kernel
theorem dX8_bitsAt_12 : decode cX8_bitsAt 12 = .ok (.iaload, 1) := by decide +kernel
theorem dX8_bitsAt_13 : decode cX8_bitsAt 13 = .ok (.laload, 1) := by decide +kernel
theorem dX8_bitsAt_14 : decode cX8_bitsAt 14 = .ok (.lreturn, 1) := by decide +kernel
theorem dX8_partAt_0 : decode cX8_partAt 0 = .ok (.aload_n 0, 1) := by decide +kernel
theorem dX8_partAt_1 : decode cX8_partAt 1 = .ok (.iload_n 1, 1) := by decide +kernel
theorem dX8_partAt_2 : decode cX8_partAt 2 = .ok (.invokevirtual 68, 3) := by decide +kernel
theorem dX8_partAt_5 : decode cX8_partAt 5 = .ok (.bipush 64, 2) := by decide +kernel
theorem dX8_partAt_7 : decode cX8_partAt 7 = .ok (.aload_n 0, 1) := by decide +kernel
theorem dX8_partAt_8 : decode cX8_partAt 8 = .ok (.getfield 9, 3) := by decide +kernel
theorem dX8_partAt_11 : decode cX8_partAt 11 = .ok (.iconst 3, 1) := by decide +kernel
theorem dX8_partAt_12 : decode cX8_partAt 12 = .ok (.iaload, 1) := by decide +kernel
theorem dX8_partAt_13 : decode cX8_partAt 13 = .ok (.isub, 1) := by decide +kernel
theorem dX8_partAt_14 : decode cX8_partAt 14 = .ok (.lushr, 1) := by decide +kernel
theorem dX8_partAt_15 : decode cX8_partAt 15 = .ok (.l2i, 1) := by decide +kernel
theorem dX8_partAt_16 : decode cX8_partAt 16 = .ok (.ireturn, 1) := by decide +kernel
theorem dX8_wholeAt_0 : decode cX8_wholeAt 0 = .ok (.aload_n 0, 1) := by decide +kernel
theorem dX8_wholeAt_1 : decode cX8_wholeAt 1 = .ok (.getfield 31, 3) := by decide +kernel
theorem dX8_wholeAt_4 : decode cX8_wholeAt 4 = .ok (.aload_n 0, 1) := by decide +kernel
theorem dX8_wholeAt_5 : decode cX8_wholeAt 5 = .ok (.getfield 15, 3) := by decide +kernel
theorem dX8_wholeAt_8 : decode cX8_wholeAt 8 = .ok (.iload_n 1, 1) := by decide +kernel
theorem dX8_wholeAt_9 : decode cX8_wholeAt 9 = .ok (.iaload, 1) := by decide +kernel
theorem dX8_wholeAt_10 : decode cX8_wholeAt 10 = .ok (.iload_n 2, 1) := by decide +kernel
theorem dX8_wholeAt_11 : decode cX8_wholeAt 11 = .ok (.invokevirtual 72, 3) := by decide +kernel
theorem dX8_wholeAt_14 : decode cX8_wholeAt 14 = .ok (.lreturn, 1) := by decide +kernel
theorem dX8_pairs_0 : decode cX8_pairs 0 = .ok (.aload_n 0, 1) := by decide +kernel
theorem dX8_pairs_1 : decode cX8_pairs 1 = .ok (.getfield 9, 3) := by decide +kernel
theorem dX8_pairs_4 : decode cX8_pairs 4 = .ok (.iconst 2, 1) := by decide +kernel
theorem dX8_pairs_5 : decode cX8_pairs 5 = .ok (.iaload, 1) := by decide +kernel
theorem dX8_pairs_6 : decode cX8_pairs 6 = .ok (.iconst 1, 1) := by decide +kernel
theorem dX8_pairs_7 : decode cX8_pairs 7 = .ok (.iadd, 1) := by decide +kernel
theorem dX8_pairs_8 : decode cX8_pairs 8 = .ok (.iconst 0, 1) := by decide +kernel
theorem dX8_pairs_9 : decode cX8_pairs 9 = .ok (.invokestatic 78, 3) := by decide +kernel
theorem dX8_pairs_12 : decode cX8_pairs 12 = .ok (.ireturn, 1) := by decide +kernel
theorem dX8_rank_0 : decode cX8_rank 0 = .ok (.aload_n 0, 1) := by decide +kernel
theorem dX8_rank_1 : decode cX8_rank 1 = .ok (.iconst 0, 1) := by decide +kernel
theorem dX8_rank_2 : decode cX8_rank 2 = .ok (.putfield 81, 3) := by decide +kernel
theorem dX8_rank_5 : decode cX8_rank 5 = .ok (.iconst 0, 1) := by decide +kernel
theorem dX8_rank_6 : decode cX8_rank 6 = .ok (.istore_n 1, 1) := by decide +kernel
theorem dX8_rank_7 : decode cX8_rank 7 = .ok (.iload_n 1, 1) := by decide +kernel
theorem dX8_rank_8 : decode cX8_rank 8 = .ok (.aload_n 0, 1) := by decide +kernel
theorem dX8_rank_9 : decode cX8_rank 9 = .ok (.invokevirtual 84, 3) := by decide +kernel
theorem dX8_rank_12 : decode cX8_rank 12 = .ok (.if_icmp .ge 19, 3) := by decide +kernel
theorem dX8_rank_15 : decode cX8_rank 15 = .ok (.aload_n 0, 1) := by decide +kernel
theorem dX8_rank_16 : decode cX8_rank 16 = .ok (.iload_n 1, 1) := by decide +kernel
theorem dX8_rank_17 : decode cX8_rank 17 = .ok (.aload_n 0, 1) := by decide +kernel
theorem dX8_rank_18 : decode cX8_rank 18 = .ok (.iload_n 1, 1) := by decide +kernel
theorem dX8_rank_19 : decode cX8_rank 19 = .ok (.invokevirtual 88, 3) := by decide +kernel
theorem dX8_rank_22 : decode cX8_rank 22 = .ok (.invokevirtual 91, 3) := by decide +kernel
theorem dX8_rank_25 : decode cX8_rank 25 = .ok (.iinc 1 1, 3) := by decide +kernel
theorem dX8_rank_28 : decode cX8_rank 28 = .ok (.goto (-21), 3) := by decide +kernel
theorem dX8_rank_31 : decode cX8_rank 31 = .ok (.return_, 1) := by decide +kernel
theorem dX8_rankOne_0 : decode cX8_rankOne 0 = .ok (.aload_n 0, 1) := by decide +kernel
theorem dX8_rankOne_1 : decode cX8_rankOne 1 = .ok (.getfield 81, 3) := by decide +kernel
theorem dX8_rankOne_4 : decode cX8_rankOne 4 = .ok (.istore_n 3, 1) := by decide +kernel
theorem dX8_rankOne_5 : decode cX8_rankOne 5 = .ok (.iload_n 3, 1) := by decide +kernel
theorem dX8_rankOne_6 : decode cX8_rankOne 6 = .ok (.ifCond .le 21, 3) := by decide +kernel
theorem dX8_rankOne_9 : decode cX8_rankOne 9 = .ok (.aload_n 0, 1) := by decide +kernel
theorem dX8_rankOne_10 : decode cX8_rankOne 10 = .ok (.getfield 21, 3) := by decide +kernel
theorem dX8_rankOne_13 : decode cX8_rankOne 13 = .ok (.iload_n 3, 1) := by decide +kernel
theorem dX8_rankOne_14 : decode cX8_rankOne 14 = .ok (.iconst 1, 1) := by decide +kernel
theorem dX8_rankOne_15 : decode cX8_rankOne 15 = .ok (.isub, 1) := by decide +kernel
theorem dX8_rankOne_16 : decode cX8_rankOne 16 = .ok (.iaload, 1) := by decide +kernel
theorem dX8_rankOne_17 : decode cX8_rankOne 17 = .ok (.iload_n 2, 1) := by decide +kernel
theorem dX8_rankOne_18 : decode cX8_rankOne 18 = .ok (.if_icmp .le 9, 3) := by decide +kernel
theorem dX8_rankOne_21 : decode cX8_rankOne 21 = .ok (.iinc 3 (-1), 3) := by decide +kernel
theorem dX8_rankOne_24 : decode cX8_rankOne 24 = .ok (.goto (-19), 3) := by decide +kernel
theorem dX8_rankOne_27 : decode cX8_rankOne 27 = .ok (.iload_n 3, 1) := by decide +kernel
theorem dX8_rankOne_28 : decode cX8_rankOne 28 = .ok (.iconst 5, 1) := by decide +kernel
theorem dX8_rankOne_29 : decode cX8_rankOne 29 = .ok (.if_icmp .lt 4, 3) := by decide +kernel
theorem dX8_rankOne_32 : decode cX8_rankOne 32 = .ok (.return_, 1) := by decide +kernel
theorem dX8_rankOne_33 : decode cX8_rankOne 33 = .ok (.aload_n 0, 1) := by decide +kernel
theorem dX8_rankOne_34 : decode cX8_rankOne 34 = .ok (.aload_n 0, 1) := by decide +kernel
theorem dX8_rankOne_35 : decode cX8_rankOne 35 = .ok (.getfield 81, 3) := by decide +kernel
theorem dX8_rankOne_38 : decode cX8_rankOne 38 = .ok (.iconst 1, 1) := by decide +kernel
theorem dX8_rankOne_39 : decode cX8_rankOne 39 = .ok (.iadd, 1) := by decide +kernel
theorem dX8_rankOne_40 : decode cX8_rankOne 40 = .ok (.iconst 5, 1) := by decide +kernel
theorem dX8_rankOne_41 : decode cX8_rankOne 41 = .ok (.invokestatic 95, 3) := by decide +kernel
theorem dX8_rankOne_44 : decode cX8_rankOne 44 = .ok (.putfield 81, 3) := by decide +kernel
theorem dX8_rankOne_47 : decode cX8_rankOne 47 = .ok (.aload_n 0, 1) := by decide +kernel
theorem dX8_rankOne_48 : decode cX8_rankOne 48 = .ok (.getfield 81, 3) := by decide +kernel
theorem dX8_rankOne_51 : decode cX8_rankOne 51 = .ok (.iconst 1, 1) := by decide +kernel
theorem dX8_rankOne_52 : decode cX8_rankOne 52 = .ok (.isub, 1) := by decide +kernel
theorem dX8_rankOne_53 : decode cX8_rankOne 53 = .ok (.istore 4, 2) := by decide +kernel
theorem dX8_rankOne_55 : decode cX8_rankOne 55 = .ok (.iload 4, 2) := by decide +kernel
theorem dX8_rankOne_57 : decode cX8_rankOne 57 = .ok (.iload_n 3, 1) := by decide +kernel
theorem dX8_rankOne_58 : decode cX8_rankOne 58 = .ok (.if_icmp .le 41, 3) := by decide +kernel
theorem dX8_rankOne_61 : decode cX8_rankOne 61 = .ok (.aload_n 0, 1) := by decide +kernel
theorem dX8_rankOne_62 : decode cX8_rankOne 62 = .ok (.getfield 18, 3) := by decide +kernel
theorem dX8_rankOne_65 : decode cX8_rankOne 65 = .ok (.iload 4, 2) := by decide +kernel
theorem dX8_rankOne_67 : decode cX8_rankOne 67 = .ok (.aload_n 0, 1) := by decide +kernel
theorem dX8_rankOne_68 : decode cX8_rankOne 68 = .ok (.getfield 18, 3) := by decide +kernel
theorem dX8_rankOne_71 : decode cX8_rankOne 71 = .ok (.iload 4, 2) := by decide +kernel
theorem dX8_rankOne_73 : decode cX8_rankOne 73 = .ok (.iconst 1, 1) := by decide +kernel
theorem dX8_rankOne_74 : decode cX8_rankOne 74 = .ok (.isub, 1) := by decide +kernel
theorem dX8_rankOne_75 : decode cX8_rankOne 75 = .ok (.iaload, 1) := by decide +kernel
theorem dX8_rankOne_76 : decode cX8_rankOne 76 = .ok (.iastore, 1) := by decide +kernel
theorem dX8_rankOne_77 : decode cX8_rankOne 77 = .ok (.aload_n 0, 1) := by decide +kernel
theorem dX8_rankOne_78 : decode cX8_rankOne 78 = .ok (.getfield 21, 3) := by decide +kernel
theorem dX8_rankOne_81 : decode cX8_rankOne 81 = .ok (.iload 4, 2) := by decide +kernel
theorem dX8_rankOne_83 : decode cX8_rankOne 83 = .ok (.aload_n 0, 1) := by decide +kernel
theorem dX8_rankOne_84 : decode cX8_rankOne 84 = .ok (.getfield 21, 3) := by decide +kernel
theorem dX8_rankOne_87 : decode cX8_rankOne 87 = .ok (.iload 4, 2) := by decide +kernel
theorem dX8_rankOne_89 : decode cX8_rankOne 89 = .ok (.iconst 1, 1) := by decide +kernel
theorem dX8_rankOne_90 : decode cX8_rankOne 90 = .ok (.isub, 1) := by decide +kernel
theorem dX8_rankOne_91 : decode cX8_rankOne 91 = .ok (.iaload, 1) := by decide +kernel
theorem dX8_rankOne_92 : decode cX8_rankOne 92 = .ok (.iastore, 1) := by decide +kernel
theorem dX8_rankOne_93 : decode cX8_rankOne 93 = .ok (.iinc 4 (-1), 3) := by decide +kernel
theorem dX8_rankOne_96 : decode cX8_rankOne 96 = .ok (.goto (-41), 3) := by decide +kernel
theorem dX8_rankOne_99 : decode cX8_rankOne 99 = .ok (.aload_n 0, 1) := by decide +kernel
theorem dX8_rankOne_100 : decode cX8_rankOne 100 = .ok (.getfield 18, 3) := by decide +kernel
theorem dX8_rankOne_103 : decode cX8_rankOne 103 = .ok (.iload_n 3, 1) := by decide +kernel
theorem dX8_rankOne_104 : decode cX8_rankOne 104 = .ok (.iload_n 1, 1) := by decide +kernel
theorem dX8_rankOne_105 : decode cX8_rankOne 105 = .ok (.iastore, 1) := by decide +kernel
theorem dX8_rankOne_106 : decode cX8_rankOne 106 = .ok (.aload_n 0, 1) := by decide +kernel
theorem dX8_rankOne_107 : decode cX8_rankOne 107 = .ok (.getfield 21, 3) := by decide +kernel
theorem dX8_rankOne_110 : decode cX8_rankOne 110 = .ok (.iload_n 3, 1) := by decide +kernel
theorem dX8_rankOne_111 : decode cX8_rankOne 111 = .ok (.iload_n 2, 1) := by decide +kernel
theorem dX8_rankOne_112 : decode cX8_rankOne 112 = .ok (.iastore, 1) := by decide +kernel
theorem dX8_rankOne_113 : decode cX8_rankOne 113 = .ok (.return_, 1) := by decide +kernel
theorem dX8_scoreOf_0 : decode cX8_scoreOf 0 = .ok (.iconst 0, 1) := by decide +kernel
theorem dX8_scoreOf_1 : decode cX8_scoreOf 1 = .ok (.istore_n 2, 1) := by decide +kernel
theorem dX8_scoreOf_2 : decode cX8_scoreOf 2 = .ok (.iconst 0, 1) := by decide +kernel
theorem dX8_scoreOf_3 : decode cX8_scoreOf 3 = .ok (.istore_n 3, 1) := by decide +kernel
theorem dX8_scoreOf_4 : decode cX8_scoreOf 4 = .ok (.iload_n 3, 1) := by decide +kernel
theorem dX8_scoreOf_5 : decode cX8_scoreOf 5 = .ok (.aload_n 0, 1) := by decide +kernel
theorem dX8_scoreOf_6 : decode cX8_scoreOf 6 = .ok (.invokevirtual 100, 3) := by decide +kernel
theorem dX8_scoreOf_9 : decode cX8_scoreOf 9 = .ok (.if_icmp .ge 18, 3) := by decide +kernel
theorem dX8_scoreOf_12 : decode cX8_scoreOf 12 = .ok (.iload_n 2, 1) := by decide +kernel
theorem dX8_scoreOf_13 : decode cX8_scoreOf 13 = .ok (.aload_n 0, 1) := by decide +kernel
theorem dX8_scoreOf_14 : decode cX8_scoreOf 14 = .ok (.iload_n 3, 1) := by decide +kernel
theorem dX8_scoreOf_15 : decode cX8_scoreOf 15 = .ok (.iload_n 1, 1) := by decide +kernel
theorem dX8_scoreOf_16 : decode cX8_scoreOf 16 = .ok (.invokevirtual 103, 3) := by decide +kernel
theorem dX8_scoreOf_19 : decode cX8_scoreOf 19 = .ok (.iadd, 1) := by decide +kernel
theorem dX8_scoreOf_20 : decode cX8_scoreOf 20 = .ok (.istore_n 2, 1) := by decide +kernel
theorem dX8_scoreOf_21 : decode cX8_scoreOf 21 = .ok (.iinc 3 1, 3) := by decide +kernel
theorem dX8_scoreOf_24 : decode cX8_scoreOf 24 = .ok (.goto (-20), 3) := by decide +kernel
theorem dX8_scoreOf_27 : decode cX8_scoreOf 27 = .ok (.iload_n 2, 1) := by decide +kernel
theorem dX8_scoreOf_28 : decode cX8_scoreOf 28 = .ok (.ireturn, 1) := by decide +kernel
theorem dX8_sampleCost_0 : decode cX8_sampleCost 0 = .ok (.aload_n 0, 1) := by decide +kernel
theorem dX8_sampleCost_1 : decode cX8_sampleCost 1 = .ok (.iload_n 1, 1) := by decide +kernel
theorem dX8_sampleCost_2 : decode cX8_sampleCost 2 = .ok (.invokevirtual 106, 3) := by decide +kernel
theorem dX8_sampleCost_5 : decode cX8_sampleCost 5 = .ok (.istore_n 3, 1) := by decide +kernel
theorem dX8_sampleCost_6 : decode cX8_sampleCost 6 = .ok (.iload_n 3, 1) := by decide +kernel
theorem dX8_sampleCost_7 : decode cX8_sampleCost 7 = .ok (.aload_n 0, 1) := by decide +kernel
theorem dX8_sampleCost_8 : decode cX8_sampleCost 8 = .ok (.getfield 9, 3) := by decide +kernel
theorem dX8_sampleCost_11 : decode cX8_sampleCost 11 = .ok (.iconst 1, 1) := by decide +kernel
theorem dX8_sampleCost_12 : decode cX8_sampleCost 12 = .ok (.iaload, 1) := by decide +kernel
theorem dX8_sampleCost_13 : decode cX8_sampleCost 13 = .ok (.if_icmp .ge 7, 3) := by decide +kernel
theorem dX8_sampleCost_16 : decode cX8_sampleCost 16 = .ok (.iload_n 3, 1) := by decide +kernel
theorem dX8_sampleCost_17 : decode cX8_sampleCost 17 = .ok (.goto 9, 3) := by decide +kernel
theorem dX8_sampleCost_20 : decode cX8_sampleCost 20 = .ok (.aload_n 0, 1) := by decide +kernel
theorem dX8_sampleCost_21 : decode cX8_sampleCost 21 = .ok (.getfield 9, 3) := by decide +kernel
theorem dX8_sampleCost_24 : decode cX8_sampleCost 24 = .ok (.iconst 1, 1) := by decide +kernel
theorem dX8_sampleCost_25 : decode cX8_sampleCost 25 = .ok (.iaload, 1) := by decide +kernel
theorem dX8_sampleCost_26 : decode cX8_sampleCost 26 = .ok (.istore 4, 2) := by decide +kernel
theorem dX8_sampleCost_28 : decode cX8_sampleCost 28 = .ok (.aload_n 0, 1) := by decide +kernel
theorem dX8_sampleCost_29 : decode cX8_sampleCost 29 = .ok (.iload_n 1, 1) := by decide +kernel
theorem dX8_sampleCost_30 : decode cX8_sampleCost 30 = .ok (.iload_n 3, 1) := by decide +kernel
theorem dX8_sampleCost_31 : decode cX8_sampleCost 31 = .ok (.iload 4, 2) := by decide +kernel
theorem dX8_sampleCost_33 : decode cX8_sampleCost 33 = .ok (.iload_n 2, 1) := by decide +kernel
theorem dX8_sampleCost_34 : decode cX8_sampleCost 34 = .ok (.invokevirtual 109, 3) := by decide +kernel
theorem dX8_sampleCost_37 : decode cX8_sampleCost 37 = .ok (.aload_n 0, 1) := by decide +kernel
theorem dX8_sampleCost_38 : decode cX8_sampleCost 38 = .ok (.iload 4, 2) := by decide +kernel
theorem dX8_sampleCost_40 : decode cX8_sampleCost 40 = .ok (.invokevirtual 113, 3) := by decide +kernel
theorem dX8_sampleCost_43 : decode cX8_sampleCost 43 = .ok (.ireturn, 1) := by decide +kernel
theorem dX8_decimalCost_0 : decode cX8_decimalCost 0 = .ok (.aload_n 0, 1) := by decide +kernel
theorem dX8_decimalCost_1 : decode cX8_decimalCost 1 = .ok (.iload_n 1, 1) := by decide +kernel
theorem dX8_decimalCost_2 : decode cX8_decimalCost 2 = .ok (.iload_n 2, 1) := by decide +kernel
theorem dX8_decimalCost_3 : decode cX8_decimalCost 3 = .ok (.invokevirtual 116, 3) := by decide +kernel
theorem dX8_decimalCost_6 : decode cX8_decimalCost 6 = .ok (.aload_n 0, 1) := by decide +kernel
theorem dX8_decimalCost_7 : decode cX8_decimalCost 7 = .ok (.aload_n 0, 1) := by decide +kernel
theorem dX8_decimalCost_8 : decode cX8_decimalCost 8 = .ok (.iload_n 1, 1) := by decide +kernel
theorem dX8_decimalCost_9 : decode cX8_decimalCost 9 = .ok (.invokevirtual 106, 3) := by decide +kernel
theorem dX8_decimalCost_12 : decode cX8_decimalCost 12 = .ok (.invokevirtual 113, 3) := by decide +kernel
theorem dX8_decimalCost_15 : decode cX8_decimalCost 15 = .ok (.ireturn, 1) := by decide +kernel
theorem dX8_measureBlock_0 : decode cX8_measureBlock 0 = .ok (.aload_n 0, 1) := by decide +kernel
theorem dX8_measureBlock_1 : decode cX8_measureBlock 1 = .ok (.iload_n 1, 1) := by decide +kernel
theorem dX8_measureBlock_2 : decode cX8_measureBlock 2 = .ok (.invokevirtual 106, 3) := by decide +kernel
theorem dX8_measureBlock_5 : decode cX8_measureBlock 5 = .ok (.istore_n 3, 1) := by decide +kernel
theorem dX8_measureBlock_6 : decode cX8_measureBlock 6 = .ok (.aload_n 0, 1) := by decide +kernel
theorem dX8_measureBlock_7 : decode cX8_measureBlock 7 = .ok (.iload_n 1, 1) := by decide +kernel
theorem dX8_measureBlock_8 : decode cX8_measureBlock 8 = .ok (.iload_n 3, 1) := by decide +kernel
theorem dX8_measureBlock_9 : decode cX8_measureBlock 9 = .ok (.iload_n 3, 1) := by decide +kernel
theorem dX8_measureBlock_10 : decode cX8_measureBlock 10 = .ok (.iload_n 2, 1) := by decide +kernel
theorem dX8_measureBlock_11 : decode cX8_measureBlock 11 = .ok (.invokevirtual 109, 3) := by decide +kernel
theorem dX8_measureBlock_14 : decode cX8_measureBlock 14 = .ok (.return_, 1) := by decide +kernel
theorem dX8_measure_0 : decode cX8_measure 0 = .ok (.aload_n 0, 1) := by decide +kernel
theorem dX8_measure_1 : decode cX8_measure 1 = .ok (.iload_n 1, 1) := by decide +kernel
theorem dX8_measure_2 : decode cX8_measure 2 = .ok (.invokevirtual 60, 3) := by decide +kernel
theorem dX8_measure_5 : decode cX8_measure 5 = .ok (.istore 5, 2) := by decide +kernel
theorem dX8_measure_7 : decode cX8_measure 7 = .ok (.aload_n 0, 1) := by decide +kernel
theorem dX8_measure_8 : decode cX8_measure 8 = .ok (.lconst 0, 1) := by decide +kernel
theorem dX8_measure_9 : decode cX8_measure 9 = .ok (.putfield 119, 3) := by decide +kernel
theorem dX8_measure_12 : decode cX8_measure 12 = .ok (.aload_n 0, 1) := by decide +kernel
theorem dX8_measure_13 : decode cX8_measure 13 = .ok (.lconst 0, 1) := by decide +kernel
theorem dX8_measure_14 : decode cX8_measure 14 = .ok (.putfield 123, 3) := by decide +kernel
theorem dX8_measure_17 : decode cX8_measure 17 = .ok (.aload_n 0, 1) := by decide +kernel
theorem dX8_measure_18 : decode cX8_measure 18 = .ok (.iconst 0, 1) := by decide +kernel
theorem dX8_measure_19 : decode cX8_measure 19 = .ok (.putfield 126, 3) := by decide +kernel
theorem dX8_measure_22 : decode cX8_measure 22 = .ok (.iconst 0, 1) := by decide +kernel
theorem dX8_measure_23 : decode cX8_measure 23 = .ok (.istore 6, 2) := by decide +kernel
theorem dX8_measure_25 : decode cX8_measure 25 = .ok (.iload 6, 2) := by decide +kernel
theorem dX8_measure_27 : decode cX8_measure 27 = .ok (.iload_n 3, 1) := by decide +kernel
theorem dX8_measure_28 : decode cX8_measure 28 = .ok (.if_icmp .ge 108, 3) := by decide +kernel
theorem dX8_measure_31 : decode cX8_measure 31 = .ok (.aload_n 0, 1) := by decide +kernel
theorem dX8_measure_32 : decode cX8_measure 32 = .ok (.getfield 31, 3) := by decide +kernel
theorem dX8_measure_35 : decode cX8_measure 35 = .ok (.getfield 129, 3) := by decide +kernel
theorem dX8_measure_38 : decode cX8_measure 38 = .ok (.aload_n 0, 1) := by decide +kernel
theorem dX8_measure_39 : decode cX8_measure 39 = .ok (.getfield 15, 3) := by decide +kernel
theorem dX8_measure_42 : decode cX8_measure 42 = .ok (.iload 5, 2) := by decide +kernel
theorem dX8_measure_44 : decode cX8_measure 44 = .ok (.iload 6, 2) := by decide +kernel
theorem dX8_measure_46 : decode cX8_measure 46 = .ok (.iload_n 2, 1) := by decide +kernel
theorem dX8_measure_47 : decode cX8_measure 47 = .ok (.imul, 1) := by decide +kernel
theorem dX8_measure_48 : decode cX8_measure 48 = .ok (.iload_n 3, 1) := by decide +kernel
theorem dX8_measure_49 : decode cX8_measure 49 = .ok (.idiv, 1) := by decide +kernel
theorem dX8_measure_50 : decode cX8_measure 50 = .ok (.iadd, 1) := by decide +kernel
theorem dX8_measure_51 : decode cX8_measure 51 = .ok (.iaload, 1) := by decide +kernel
theorem dX8_measure_52 : decode cX8_measure 52 = .ok (.bipush 120, 2) := by decide +kernel
theorem dX8_measure_54 : decode cX8_measure 54 = .ok (.imul, 1) := by decide +kernel
theorem dX8_measure_55 : decode cX8_measure 55 = .ok (.iload 4, 2) := by decide +kernel
theorem dX8_measure_57 : decode cX8_measure 57 = .ok (.iadd, 1) := by decide +kernel
theorem dX8_measure_58 : decode cX8_measure 58 = .ok (.laload, 1) := by decide +kernel
theorem dX8_measure_59 : decode cX8_measure 59 = .ok (.lstore 7, 2) := by decide +kernel
theorem dX8_measure_61 : decode cX8_measure 61 = .ok (.lload 7, 2) := by decide +kernel
theorem dX8_measure_63 : decode cX8_measure 63 = .ok (.ldc2_w 132, 3) := by decide +kernel
theorem dX8_measure_66 : decode cX8_measure 66 = .ok (.lcmp, 1) := by decide +kernel
theorem dX8_measure_67 : decode cX8_measure 67 = .ok (.ifCond .eq 63, 3) := by decide +kernel
theorem dX8_measure_70 : decode cX8_measure 70 = .ok (.aload_n 0, 1) := by decide +kernel
theorem dX8_measure_71 : decode cX8_measure 71 = .ok (.aload_n 0, 1) := by decide +kernel
theorem dX8_measure_72 : decode cX8_measure 72 = .ok (.getfield 126, 3) := by decide +kernel
theorem dX8_measure_75 : decode cX8_measure 75 = .ok (.ifCond .ne 8, 3) := by decide +kernel
theorem dX8_measure_78 : decode cX8_measure 78 = .ok (.lload 7, 2) := by decide +kernel
theorem dX8_measure_80 : decode cX8_measure 80 = .ok (.goto 12, 3) := by decide +kernel
theorem dX8_measure_83 : decode cX8_measure 83 = .ok (.aload_n 0, 1) := by decide +kernel
theorem dX8_measure_84 : decode cX8_measure 84 = .ok (.getfield 119, 3) := by decide +kernel
theorem dX8_measure_87 : decode cX8_measure 87 = .ok (.lload 7, 2) := by decide +kernel
theorem dX8_measure_89 : decode cX8_measure 89 = .ok (.invokestatic 134, 3) := by decide +kernel
theorem dX8_measure_92 : decode cX8_measure 92 = .ok (.putfield 119, 3) := by decide +kernel
theorem dX8_measure_95 : decode cX8_measure 95 = .ok (.aload_n 0, 1) := by decide +kernel
theorem dX8_measure_96 : decode cX8_measure 96 = .ok (.aload_n 0, 1) := by decide +kernel
theorem dX8_measure_97 : decode cX8_measure 97 = .ok (.getfield 126, 3) := by decide +kernel
theorem dX8_measure_100 : decode cX8_measure 100 = .ok (.ifCond .ne 8, 3) := by decide +kernel
theorem dX8_measure_103 : decode cX8_measure 103 = .ok (.lload 7, 2) := by decide +kernel
theorem dX8_measure_105 : decode cX8_measure 105 = .ok (.goto 12, 3) := by decide +kernel
theorem dX8_measure_108 : decode cX8_measure 108 = .ok (.aload_n 0, 1) := by decide +kernel
theorem dX8_measure_109 : decode cX8_measure 109 = .ok (.getfield 123, 3) := by decide +kernel
theorem dX8_measure_112 : decode cX8_measure 112 = .ok (.lload 7, 2) := by decide +kernel
theorem dX8_measure_114 : decode cX8_measure 114 = .ok (.invokestatic 137, 3) := by decide +kernel
theorem dX8_measure_117 : decode cX8_measure 117 = .ok (.putfield 123, 3) := by decide +kernel
theorem dX8_measure_120 : decode cX8_measure 120 = .ok (.aload_n 0, 1) := by decide +kernel
theorem dX8_measure_121 : decode cX8_measure 121 = .ok (.dup, 1) := by decide +kernel
theorem dX8_measure_122 : decode cX8_measure 122 = .ok (.getfield 126, 3) := by decide +kernel
theorem dX8_measure_125 : decode cX8_measure 125 = .ok (.iconst 1, 1) := by decide +kernel
theorem dX8_measure_126 : decode cX8_measure 126 = .ok (.iadd, 1) := by decide +kernel
theorem dX8_measure_127 : decode cX8_measure 127 = .ok (.putfield 126, 3) := by decide +kernel
theorem dX8_measure_130 : decode cX8_measure 130 = .ok (.iinc 6 1, 3) := by decide +kernel
theorem dX8_measure_133 : decode cX8_measure 133 = .ok (.goto (-108), 3) := by decide +kernel
theorem dX8_measure_136 : decode cX8_measure 136 = .ok (.return_, 1) := by decide +kernel
theorem dX8_measuredCost_0 : decode cX8_measuredCost 0 = .ok (.iload_n 1, 1) := by decide +kernel
theorem dX8_measuredCost_1 : decode cX8_measuredCost 1 = .ok (.aload_n 0, 1) := by decide +kernel
theorem dX8_measuredCost_2 : decode cX8_measuredCost 2 = .ok (.getfield 123, 3) := by decide +kernel
theorem dX8_measuredCost_5 : decode cX8_measuredCost 5 = .ok (.aload_n 0, 1) := by decide +kernel
theorem dX8_measuredCost_6 : decode cX8_measuredCost 6 = .ok (.getfield 119, 3) := by decide +kernel
theorem dX8_measuredCost_9 : decode cX8_measuredCost 9 = .ok (.lsub, 1) := by decide +kernel
theorem dX8_measuredCost_10 : decode cX8_measuredCost 10 = .ok (.invokestatic 140, 3) := by decide +kernel
theorem dX8_measuredCost_13 : decode cX8_measuredCost 13 = .ok (.imul, 1) := by decide +kernel
theorem dX8_measuredCost_14 : decode cX8_measuredCost 14 = .ok (.istore_n 2, 1) := by decide +kernel
theorem dX8_measuredCost_15 : decode cX8_measuredCost 15 = .ok (.bipush 15, 2) := by decide +kernel
theorem dX8_measuredCost_17 : decode cX8_measuredCost 17 = .ok (.iload_n 2, 1) := by decide +kernel
theorem dX8_measuredCost_18 : decode cX8_measuredCost 18 = .ok (.bipush 7, 2) := by decide +kernel
theorem dX8_measuredCost_20 : decode cX8_measuredCost 20 = .ok (.iadd, 1) := by decide +kernel
theorem dX8_measuredCost_21 : decode cX8_measuredCost 21 = .ok (.bipush 8, 2) := by decide +kernel
theorem dX8_measuredCost_23 : decode cX8_measuredCost 23 = .ok (.idiv, 1) := by decide +kernel
theorem dX8_measuredCost_24 : decode cX8_measuredCost 24 = .ok (.iadd, 1) := by decide +kernel
theorem dX8_measuredCost_25 : decode cX8_measuredCost 25 = .ok (.bipush 9, 2) := by decide +kernel
theorem dX8_measuredCost_27 : decode cX8_measuredCost 27 = .ok (.iload_n 1, 1) := by decide +kernel
theorem dX8_measuredCost_28 : decode cX8_measuredCost 28 = .ok (.aload_n 0, 1) := by decide +kernel
theorem dX8_measuredCost_29 : decode cX8_measuredCost 29 = .ok (.getfield 126, 3) := by decide +kernel
theorem dX8_measuredCost_32 : decode cX8_measuredCost 32 = .ok (.isub, 1) := by decide +kernel
theorem dX8_measuredCost_33 : decode cX8_measuredCost 33 = .ok (.imul, 1) := by decide +kernel
theorem dX8_measuredCost_34 : decode cX8_measuredCost 34 = .ok (.iadd, 1) := by decide +kernel
theorem dX8_measuredCost_35 : decode cX8_measuredCost 35 = .ok (.ireturn, 1) := by decide +kernel
theorem dX8_widthOf_0 : decode cX8_widthOf 0 = .ok (.aload_n 0, 1) := by decide +kernel
theorem dX8_widthOf_1 : decode cX8_widthOf 1 = .ok (.iload_n 1, 1) := by decide +kernel
theorem dX8_widthOf_2 : decode cX8_widthOf 2 = .ok (.aload_n 0, 1) := by decide +kernel
theorem dX8_widthOf_3 : decode cX8_widthOf 3 = .ok (.getfield 144, 3) := by decide +kernel
theorem dX8_widthOf_6 : decode cX8_widthOf 6 = .ok (.invokevirtual 116, 3) := by decide +kernel
theorem dX8_widthOf_9 : decode cX8_widthOf 9 = .ok (.aload_n 0, 1) := by decide +kernel
theorem dX8_widthOf_10 : decode cX8_widthOf 10 = .ok (.getfield 123, 3) := by decide +kernel
theorem dX8_widthOf_13 : decode cX8_widthOf 13 = .ok (.aload_n 0, 1) := by decide +kernel
theorem dX8_widthOf_14 : decode cX8_widthOf 14 = .ok (.getfield 119, 3) := by decide +kernel
theorem dX8_widthOf_17 : decode cX8_widthOf 17 = .ok (.lsub, 1) := by decide +kernel
theorem dX8_widthOf_18 : decode cX8_widthOf 18 = .ok (.invokestatic 140, 3) := by decide +kernel
theorem dX8_widthOf_21 : decode cX8_widthOf 21 = .ok (.ireturn, 1) := by decide +kernel
theorem dX8_rawCost_0 : decode cX8_rawCost 0 = .ok (.iconst 3, 1) := by decide +kernel
theorem dX8_rawCost_1 : decode cX8_rawCost 1 = .ok (.bipush 8, 2) := by decide +kernel
theorem dX8_rawCost_3 : decode cX8_rawCost 3 = .ok (.aload_n 0, 1) := by decide +kernel
theorem dX8_rawCost_4 : decode cX8_rawCost 4 = .ok (.iload_n 1, 1) := by decide +kernel
theorem dX8_rawCost_5 : decode cX8_rawCost 5 = .ok (.invokevirtual 106, 3) := by decide +kernel
theorem dX8_rawCost_8 : decode cX8_rawCost 8 = .ok (.imul, 1) := by decide +kernel
theorem dX8_rawCost_9 : decode cX8_rawCost 9 = .ok (.iadd, 1) := by decide +kernel
theorem dX8_rawCost_10 : decode cX8_rawCost 10 = .ok (.ireturn, 1) := by decide +kernel
theorem dX8_divide_0 : decode cX8_divide 0 = .ok (.aload_n 0, 1) := by decide +kernel
theorem dX8_divide_1 : decode cX8_divide 1 = .ok (.getfield 27, 3) := by decide +kernel
theorem dX8_divide_4 : decode cX8_divide 4 = .ok (.invokevirtual 147, 3) := by decide +kernel
theorem dX8_divide_7 : decode cX8_divide 7 = .ok (.iconst 0, 1) := by decide +kernel
theorem dX8_divide_8 : decode cX8_divide 8 = .ok (.istore_n 2, 1) := by decide +kernel
theorem dX8_divide_9 : decode cX8_divide 9 = .ok (.iload_n 2, 1) := by decide +kernel
theorem dX8_divide_10 : decode cX8_divide 10 = .ok (.aload_n 0, 1) := by decide +kernel
theorem dX8_divide_11 : decode cX8_divide 11 = .ok (.iload_n 1, 1) := by decide +kernel
theorem dX8_divide_12 : decode cX8_divide 12 = .ok (.invokevirtual 106, 3) := by decide +kernel
theorem dX8_divide_15 : decode cX8_divide 15 = .ok (.if_icmp .ge 27, 3) := by decide +kernel
theorem dX8_divide_18 : decode cX8_divide 18 = .ok (.aload_n 0, 1) := by decide +kernel
theorem dX8_divide_19 : decode cX8_divide 19 = .ok (.getfield 27, 3) := by decide +kernel
theorem dX8_divide_22 : decode cX8_divide 22 = .ok (.aload_n 0, 1) := by decide +kernel
theorem dX8_divide_23 : decode cX8_divide 23 = .ok (.aload_n 0, 1) := by decide +kernel
theorem dX8_divide_24 : decode cX8_divide 24 = .ok (.iload_n 1, 1) := by decide +kernel
theorem dX8_divide_25 : decode cX8_divide 25 = .ok (.invokevirtual 60, 3) := by decide +kernel
theorem dX8_divide_28 : decode cX8_divide 28 = .ok (.iload_n 2, 1) := by decide +kernel
theorem dX8_divide_29 : decode cX8_divide 29 = .ok (.iadd, 1) := by decide +kernel
theorem dX8_divide_30 : decode cX8_divide 30 = .ok (.invokevirtual 150, 3) := by decide +kernel
theorem dX8_divide_33 : decode cX8_divide 33 = .ok (.invokevirtual 153, 3) := by decide +kernel
theorem dX8_divide_36 : decode cX8_divide 36 = .ok (.iinc 2 1, 3) := by decide +kernel
theorem dX8_divide_39 : decode cX8_divide 39 = .ok (.goto (-30), 3) := by decide +kernel
theorem dX8_divide_42 : decode cX8_divide 42 = .ok (.aload_n 0, 1) := by decide +kernel
theorem dX8_divide_43 : decode cX8_divide 43 = .ok (.getfield 27, 3) := by decide +kernel
theorem dX8_divide_46 : decode cX8_divide 46 = .ok (.aload_n 0, 1) := by decide +kernel
theorem dX8_divide_47 : decode cX8_divide 47 = .ok (.getfield 9, 3) := by decide +kernel
theorem dX8_divide_50 : decode cX8_divide 50 = .ok (.iconst 4, 1) := by decide +kernel
theorem dX8_divide_51 : decode cX8_divide 51 = .ok (.iaload, 1) := by decide +kernel
theorem dX8_divide_52 : decode cX8_divide 52 = .ok (.invokevirtual 157, 3) := by decide +kernel
theorem dX8_divide_55 : decode cX8_divide 55 = .ok (.return_, 1) := by decide +kernel
theorem dX8_splitCost_0 : decode cX8_splitCost 0 = .ok (.aload_n 0, 1) := by decide +kernel
theorem dX8_splitCost_1 : decode cX8_splitCost 1 = .ok (.iload_n 1, 1) := by decide +kernel
theorem dX8_splitCost_2 : decode cX8_splitCost 2 = .ok (.invokevirtual 160, 3) := by decide +kernel
theorem dX8_splitCost_5 : decode cX8_splitCost 5 = .ok (.aload_n 0, 1) := by decide +kernel
theorem dX8_splitCost_6 : decode cX8_splitCost 6 = .ok (.iload_n 1, 1) := by decide +kernel
theorem dX8_splitCost_7 : decode cX8_splitCost 7 = .ok (.invokevirtual 106, 3) := by decide +kernel
theorem dX8_splitCost_10 : decode cX8_splitCost 10 = .ok (.aload_n 0, 1) := by decide +kernel
theorem dX8_splitCost_11 : decode cX8_splitCost 11 = .ok (.getfield 27, 3) := by decide +kernel
theorem dX8_splitCost_14 : decode cX8_splitCost 14 = .ok (.invokevirtual 163, 3) := by decide +kernel
theorem dX8_splitCost_17 : decode cX8_splitCost 17 = .ok (.bipush 64, 2) := by decide +kernel
theorem dX8_splitCost_19 : decode cX8_splitCost 19 = .ok (.iadd, 1) := by decide +kernel
theorem dX8_splitCost_20 : decode cX8_splitCost 20 = .ok (.aload_n 0, 1) := by decide +kernel
theorem dX8_splitCost_21 : decode cX8_splitCost 21 = .ok (.getfield 9, 3) := by decide +kernel
theorem dX8_splitCost_24 : decode cX8_splitCost 24 = .ok (.iconst 3, 1) := by decide +kernel
theorem dX8_splitCost_25 : decode cX8_splitCost 25 = .ok (.iaload, 1) := by decide +kernel
theorem dX8_splitCost_26 : decode cX8_splitCost 26 = .ok (.isub, 1) := by decide +kernel
theorem dX8_splitCost_27 : decode cX8_splitCost 27 = .ok (.imul, 1) := by decide +kernel
theorem dX8_splitCost_28 : decode cX8_splitCost 28 = .ok (.istore_n 2, 1) := by decide +kernel
theorem dX8_splitCost_29 : decode cX8_splitCost 29 = .ok (.bipush 6, 2) := by decide +kernel
theorem dX8_splitCost_31 : decode cX8_splitCost 31 = .ok (.iconst 2, 1) := by decide +kernel
theorem dX8_splitCost_32 : decode cX8_splitCost 32 = .ok (.aload_n 0, 1) := by decide +kernel
theorem dX8_splitCost_33 : decode cX8_splitCost 33 = .ok (.getfield 27, 3) := by decide +kernel
theorem dX8_splitCost_36 : decode cX8_splitCost 36 = .ok (.getfield 166, 3) := by decide +kernel
theorem dX8_splitCost_39 : decode cX8_splitCost 39 = .ok (.imul, 1) := by decide +kernel
theorem dX8_splitCost_40 : decode cX8_splitCost 40 = .ok (.iadd, 1) := by decide +kernel
theorem dX8_splitCost_41 : decode cX8_splitCost 41 = .ok (.iload_n 2, 1) := by decide +kernel
theorem dX8_splitCost_42 : decode cX8_splitCost 42 = .ok (.bipush 7, 2) := by decide +kernel
theorem dX8_splitCost_44 : decode cX8_splitCost 44 = .ok (.iadd, 1) := by decide +kernel
theorem dX8_splitCost_45 : decode cX8_splitCost 45 = .ok (.bipush 8, 2) := by decide +kernel
theorem dX8_splitCost_47 : decode cX8_splitCost 47 = .ok (.idiv, 1) := by decide +kernel
theorem dX8_splitCost_48 : decode cX8_splitCost 48 = .ok (.iadd, 1) := by decide +kernel
theorem dX8_splitCost_49 : decode cX8_splitCost 49 = .ok (.iconst 3, 1) := by decide +kernel
theorem dX8_splitCost_50 : decode cX8_splitCost 50 = .ok (.aload_n 0, 1) := by decide +kernel
theorem dX8_splitCost_51 : decode cX8_splitCost 51 = .ok (.getfield 27, 3) := by decide +kernel
theorem dX8_splitCost_54 : decode cX8_splitCost 54 = .ok (.getfield 169, 3) := by decide +kernel
theorem dX8_splitCost_57 : decode cX8_splitCost 57 = .ok (.invokestatic 172, 3) := by decide +kernel
theorem dX8_splitCost_60 : decode cX8_splitCost 60 = .ok (.imul, 1) := by decide +kernel
theorem dX8_splitCost_61 : decode cX8_splitCost 61 = .ok (.iadd, 1) := by decide +kernel
theorem dX8_splitCost_62 : decode cX8_splitCost 62 = .ok (.ireturn, 1) := by decide +kernel
theorem dX8_pairOf_0 : decode cX8_pairOf 0 = .ok (.iconst 0, 1) := by decide +kernel
theorem dX8_pairOf_1 : decode cX8_pairOf 1 = .ok (.istore_n 2, 1) := by decide +kernel
theorem dX8_pairOf_2 : decode cX8_pairOf 2 = .ok (.iconst 0, 1) := by decide +kernel
theorem dX8_pairOf_3 : decode cX8_pairOf 3 = .ok (.istore_n 3, 1) := by decide +kernel
theorem dX8_pairOf_4 : decode cX8_pairOf 4 = .ok (.iconst 0, 1) := by decide +kernel
theorem dX8_pairOf_5 : decode cX8_pairOf 5 = .ok (.istore 4, 2) := by decide +kernel
theorem dX8_pairOf_7 : decode cX8_pairOf 7 = .ok (.iload 4, 2) := by decide +kernel
theorem dX8_pairOf_9 : decode cX8_pairOf 9 = .ok (.aload_n 0, 1) := by decide +kernel
theorem dX8_pairOf_10 : decode cX8_pairOf 10 = .ok (.getfield 81, 3) := by decide +kernel
theorem dX8_pairOf_13 : decode cX8_pairOf 13 = .ok (.if_icmp .ge 45, 3) := by decide +kernel
theorem dX8_pairOf_16 : decode cX8_pairOf 16 = .ok (.aload_n 0, 1) := by decide +kernel
theorem dX8_pairOf_17 : decode cX8_pairOf 17 = .ok (.iload_n 1, 1) := by decide +kernel
theorem dX8_pairOf_18 : decode cX8_pairOf 18 = .ok (.aload_n 0, 1) := by decide +kernel
theorem dX8_pairOf_19 : decode cX8_pairOf 19 = .ok (.getfield 18, 3) := by decide +kernel
theorem dX8_pairOf_22 : decode cX8_pairOf 22 = .ok (.iload 4, 2) := by decide +kernel
theorem dX8_pairOf_24 : decode cX8_pairOf 24 = .ok (.iaload, 1) := by decide +kernel
theorem dX8_pairOf_25 : decode cX8_pairOf 25 = .ok (.invokevirtual 103, 3) := by decide +kernel
theorem dX8_pairOf_28 : decode cX8_pairOf 28 = .ok (.istore 5, 2) := by decide +kernel
theorem dX8_pairOf_30 : decode cX8_pairOf 30 = .ok (.iload 4, 2) := by decide +kernel
theorem dX8_pairOf_32 : decode cX8_pairOf 32 = .ok (.ifCond .eq 9, 3) := by decide +kernel
theorem dX8_pairOf_35 : decode cX8_pairOf 35 = .ok (.iload 5, 2) := by decide +kernel
theorem dX8_pairOf_37 : decode cX8_pairOf 37 = .ok (.iload_n 3, 1) := by decide +kernel
theorem dX8_pairOf_38 : decode cX8_pairOf 38 = .ok (.if_icmp .ge 14, 3) := by decide +kernel
theorem dX8_pairOf_41 : decode cX8_pairOf 41 = .ok (.aload_n 0, 1) := by decide +kernel
theorem dX8_pairOf_42 : decode cX8_pairOf 42 = .ok (.getfield 18, 3) := by decide +kernel
theorem dX8_pairOf_45 : decode cX8_pairOf 45 = .ok (.iload 4, 2) := by decide +kernel
theorem dX8_pairOf_47 : decode cX8_pairOf 47 = .ok (.iaload, 1) := by decide +kernel
theorem dX8_pairOf_48 : decode cX8_pairOf 48 = .ok (.istore_n 2, 1) := by decide +kernel
theorem dX8_pairOf_49 : decode cX8_pairOf 49 = .ok (.iload 5, 2) := by decide +kernel
theorem dX8_pairOf_51 : decode cX8_pairOf 51 = .ok (.istore_n 3, 1) := by decide +kernel
theorem dX8_pairOf_52 : decode cX8_pairOf 52 = .ok (.iinc 4 1, 3) := by decide +kernel
theorem dX8_pairOf_55 : decode cX8_pairOf 55 = .ok (.goto (-48), 3) := by decide +kernel
theorem dX8_pairOf_58 : decode cX8_pairOf 58 = .ok (.iload_n 2, 1) := by decide +kernel
theorem dX8_pairOf_59 : decode cX8_pairOf 59 = .ok (.ireturn, 1) := by decide +kernel
theorem dX8_weigh_0 : decode cX8_weigh 0 = .ok (.aload_n 0, 1) := by decide +kernel
theorem dX8_weigh_1 : decode cX8_weigh 1 = .ok (.aload_n 0, 1) := by decide +kernel
theorem dX8_weigh_2 : decode cX8_weigh 2 = .ok (.iload_n 1, 1) := by decide +kernel
theorem dX8_weigh_3 : decode cX8_weigh 3 = .ok (.invokevirtual 177, 3) := by decide +kernel
theorem dX8_weigh_6 : decode cX8_weigh 6 = .ok (.putfield 144, 3) := by decide +kernel
theorem dX8_weigh_9 : decode cX8_weigh 9 = .ok (.aload_n 0, 1) := by decide +kernel
theorem dX8_weigh_10 : decode cX8_weigh 10 = .ok (.iconst 0, 1) := by decide +kernel
theorem dX8_weigh_11 : decode cX8_weigh 11 = .ok (.putfield 180, 3) := by decide +kernel
theorem dX8_weigh_14 : decode cX8_weigh 14 = .ok (.aload_n 0, 1) := by decide +kernel
theorem dX8_weigh_15 : decode cX8_weigh 15 = .ok (.aload_n 0, 1) := by decide +kernel
theorem dX8_weigh_16 : decode cX8_weigh 16 = .ok (.iload_n 1, 1) := by decide +kernel
theorem dX8_weigh_17 : decode cX8_weigh 17 = .ok (.invokevirtual 183, 3) := by decide +kernel
theorem dX8_weigh_20 : decode cX8_weigh 20 = .ok (.putfield 186, 3) := by decide +kernel
theorem dX8_weigh_23 : decode cX8_weigh 23 = .ok (.aload_n 0, 1) := by decide +kernel
theorem dX8_weigh_24 : decode cX8_weigh 24 = .ok (.iconst 0, 1) := by decide +kernel
theorem dX8_weigh_25 : decode cX8_weigh 25 = .ok (.putfield 189, 3) := by decide +kernel
theorem dX8_weigh_28 : decode cX8_weigh 28 = .ok (.aload_n 0, 1) := by decide +kernel
theorem dX8_weigh_29 : decode cX8_weigh 29 = .ok (.iload_n 1, 1) := by decide +kernel
theorem dX8_weigh_30 : decode cX8_weigh 30 = .ok (.aload_n 0, 1) := by decide +kernel
theorem dX8_weigh_31 : decode cX8_weigh 31 = .ok (.getfield 144, 3) := by decide +kernel
theorem dX8_weigh_34 : decode cX8_weigh 34 = .ok (.invokevirtual 192, 3) := by decide +kernel
theorem dX8_weigh_37 : decode cX8_weigh 37 = .ok (.istore_n 2, 1) := by decide +kernel
theorem dX8_weigh_38 : decode cX8_weigh 38 = .ok (.iload_n 2, 1) := by decide +kernel
theorem dX8_weigh_39 : decode cX8_weigh 39 = .ok (.aload_n 0, 1) := by decide +kernel
theorem dX8_weigh_40 : decode cX8_weigh 40 = .ok (.getfield 186, 3) := by decide +kernel
theorem dX8_weigh_43 : decode cX8_weigh 43 = .ok (.if_icmp .ge 22, 3) := by decide +kernel
theorem dX8_weigh_46 : decode cX8_weigh 46 = .ok (.aload_n 0, 1) := by decide +kernel
theorem dX8_weigh_47 : decode cX8_weigh 47 = .ok (.iconst 1, 1) := by decide +kernel
theorem dX8_weigh_48 : decode cX8_weigh 48 = .ok (.putfield 180, 3) := by decide +kernel
theorem dX8_weigh_51 : decode cX8_weigh 51 = .ok (.aload_n 0, 1) := by decide +kernel
theorem dX8_weigh_52 : decode cX8_weigh 52 = .ok (.iload_n 2, 1) := by decide +kernel
theorem dX8_weigh_53 : decode cX8_weigh 53 = .ok (.putfield 186, 3) := by decide +kernel
theorem dX8_weigh_56 : decode cX8_weigh 56 = .ok (.aload_n 0, 1) := by decide +kernel
theorem dX8_weigh_57 : decode cX8_weigh 57 = .ok (.aload_n 0, 1) := by decide +kernel
theorem dX8_weigh_58 : decode cX8_weigh 58 = .ok (.iload_n 1, 1) := by decide +kernel
theorem dX8_weigh_59 : decode cX8_weigh 59 = .ok (.invokevirtual 195, 3) := by decide +kernel
theorem dX8_weigh_62 : decode cX8_weigh 62 = .ok (.putfield 189, 3) := by decide +kernel
theorem dX8_weigh_65 : decode cX8_weigh 65 = .ok (.aload_n 0, 1) := by decide +kernel
theorem dX8_weigh_66 : decode cX8_weigh 66 = .ok (.iload_n 1, 1) := by decide +kernel
theorem dX8_weigh_67 : decode cX8_weigh 67 = .ok (.invokevirtual 198, 3) := by decide +kernel
theorem dX8_weigh_70 : decode cX8_weigh 70 = .ok (.istore_n 3, 1) := by decide +kernel
theorem dX8_weigh_71 : decode cX8_weigh 71 = .ok (.iload_n 3, 1) := by decide +kernel
theorem dX8_weigh_72 : decode cX8_weigh 72 = .ok (.aload_n 0, 1) := by decide +kernel
theorem dX8_weigh_73 : decode cX8_weigh 73 = .ok (.getfield 186, 3) := by decide +kernel
theorem dX8_weigh_76 : decode cX8_weigh 76 = .ok (.if_icmp .ge 24, 3) := by decide +kernel
theorem dX8_weigh_79 : decode cX8_weigh 79 = .ok (.aload_n 0, 1) := by decide +kernel
theorem dX8_weigh_80 : decode cX8_weigh 80 = .ok (.iconst 2, 1) := by decide +kernel
theorem dX8_weigh_81 : decode cX8_weigh 81 = .ok (.putfield 180, 3) := by decide +kernel
theorem dX8_weigh_84 : decode cX8_weigh 84 = .ok (.aload_n 0, 1) := by decide +kernel
theorem dX8_weigh_85 : decode cX8_weigh 85 = .ok (.iload_n 3, 1) := by decide +kernel
theorem dX8_weigh_86 : decode cX8_weigh 86 = .ok (.putfield 186, 3) := by decide +kernel
theorem dX8_weigh_89 : decode cX8_weigh 89 = .ok (.aload_n 0, 1) := by decide +kernel
theorem dX8_weigh_90 : decode cX8_weigh 90 = .ok (.aload_n 0, 1) := by decide +kernel
theorem dX8_weigh_91 : decode cX8_weigh 91 = .ok (.getfield 27, 3) := by decide +kernel
theorem dX8_weigh_94 : decode cX8_weigh 94 = .ok (.getfield 169, 3) := by decide +kernel
theorem dX8_weigh_97 : decode cX8_weigh 97 = .ok (.putfield 189, 3) := by decide +kernel
theorem dX8_weigh_100 : decode cX8_weigh 100 = .ok (.return_, 1) := by decide +kernel
theorem dX8_unfitting_0 : decode cX8_unfitting 0 = .ok (.iconst 0, 1) := by decide +kernel
theorem dX8_unfitting_1 : decode cX8_unfitting 1 = .ok (.istore_n 2, 1) := by decide +kernel
theorem dX8_unfitting_2 : decode cX8_unfitting 2 = .ok (.iconst 0, 1) := by decide +kernel
theorem dX8_unfitting_3 : decode cX8_unfitting 3 = .ok (.istore_n 3, 1) := by decide +kernel
theorem dX8_unfitting_4 : decode cX8_unfitting 4 = .ok (.iload_n 3, 1) := by decide +kernel
theorem dX8_unfitting_5 : decode cX8_unfitting 5 = .ok (.aload_n 0, 1) := by decide +kernel
theorem dX8_unfitting_6 : decode cX8_unfitting 6 = .ok (.iload_n 1, 1) := by decide +kernel
theorem dX8_unfitting_7 : decode cX8_unfitting 7 = .ok (.invokevirtual 106, 3) := by decide +kernel
theorem dX8_unfitting_10 : decode cX8_unfitting 10 = .ok (.if_icmp .ge 37, 3) := by decide +kernel
theorem dX8_unfitting_13 : decode cX8_unfitting 13 = .ok (.aload_n 0, 1) := by decide +kernel
theorem dX8_unfitting_14 : decode cX8_unfitting 14 = .ok (.aload_n 0, 1) := by decide +kernel
theorem dX8_unfitting_15 : decode cX8_unfitting 15 = .ok (.iload_n 1, 1) := by decide +kernel
theorem dX8_unfitting_16 : decode cX8_unfitting 16 = .ok (.invokevirtual 60, 3) := by decide +kernel
theorem dX8_unfitting_19 : decode cX8_unfitting 19 = .ok (.iload_n 3, 1) := by decide +kernel
theorem dX8_unfitting_20 : decode cX8_unfitting 20 = .ok (.iadd, 1) := by decide +kernel
theorem dX8_unfitting_21 : decode cX8_unfitting 21 = .ok (.aload_n 0, 1) := by decide +kernel
theorem dX8_unfitting_22 : decode cX8_unfitting 22 = .ok (.getfield 144, 3) := by decide +kernel
theorem dX8_unfitting_25 : decode cX8_unfitting 25 = .ok (.invokevirtual 201, 3) := by decide +kernel
theorem dX8_unfitting_28 : decode cX8_unfitting 28 = .ok (.ldc2_w 132, 3) := by decide +kernel
theorem dX8_unfitting_31 : decode cX8_unfitting 31 = .ok (.lcmp, 1) := by decide +kernel
theorem dX8_unfitting_32 : decode cX8_unfitting 32 = .ok (.ifCond .ne 9, 3) := by decide +kernel
theorem dX8_unfitting_35 : decode cX8_unfitting 35 = .ok (.iload_n 2, 1) := by decide +kernel
theorem dX8_unfitting_36 : decode cX8_unfitting 36 = .ok (.iconst 1, 1) := by decide +kernel
theorem dX8_unfitting_37 : decode cX8_unfitting 37 = .ok (.iload_n 3, 1) := by decide +kernel
theorem dX8_unfitting_38 : decode cX8_unfitting 38 = .ok (.ishl, 1) := by decide +kernel
theorem dX8_unfitting_39 : decode cX8_unfitting 39 = .ok (.ior, 1) := by decide +kernel
theorem dX8_unfitting_40 : decode cX8_unfitting 40 = .ok (.istore_n 2, 1) := by decide +kernel
theorem dX8_unfitting_41 : decode cX8_unfitting 41 = .ok (.iinc 3 1, 3) := by decide +kernel
theorem dX8_unfitting_44 : decode cX8_unfitting 44 = .ok (.goto (-40), 3) := by decide +kernel
theorem dX8_unfitting_47 : decode cX8_unfitting 47 = .ok (.iload_n 2, 1) := by decide +kernel
theorem dX8_unfitting_48 : decode cX8_unfitting 48 = .ok (.ireturn, 1) := by decide +kernel
theorem dX8_isException_0 : decode cX8_isException 0 = .ok (.aload_n 0, 1) := by decide +kernel
theorem dX8_isException_1 : decode cX8_isException 1 = .ok (.iload_n 1, 1) := by decide +kernel
theorem dX8_isException_2 : decode cX8_isException 2 = .ok (.invokevirtual 204, 3) := by decide +kernel
theorem dX8_isException_5 : decode cX8_isException 5 = .ok (.istore_n 2, 1) := by decide +kernel
theorem dX8_isException_6 : decode cX8_isException 6 = .ok (.aload_n 0, 1) := by decide +kernel
theorem dX8_isException_7 : decode cX8_isException 7 = .ok (.iload_n 2, 1) := by decide +kernel
theorem dX8_isException_8 : decode cX8_isException 8 = .ok (.invokevirtual 207, 3) := by decide +kernel
theorem dX8_isException_11 : decode cX8_isException 11 = .ok (.aload_n 0, 1) := by decide +kernel
theorem dX8_isException_12 : decode cX8_isException 12 = .ok (.getfield 189, 3) := by decide +kernel
theorem dX8_isException_15 : decode cX8_isException 15 = .ok (.iload_n 1, 1) := by decide +kernel
theorem dX8_isException_16 : decode cX8_isException 16 = .ok (.aload_n 0, 1) := by decide +kernel
theorem dX8_isException_17 : decode cX8_isException 17 = .ok (.iload_n 2, 1) := by decide +kernel
theorem dX8_isException_18 : decode cX8_isException 18 = .ok (.invokevirtual 60, 3) := by decide +kernel
theorem dX8_isException_21 : decode cX8_isException 21 = .ok (.isub, 1) := by decide +kernel
theorem dX8_isException_22 : decode cX8_isException 22 = .ok (.ishr, 1) := by decide +kernel
theorem dX8_isException_23 : decode cX8_isException 23 = .ok (.iconst 1, 1) := by decide +kernel
theorem dX8_isException_24 : decode cX8_isException 24 = .ok (.iand, 1) := by decide +kernel
theorem dX8_isException_25 : decode cX8_isException 25 = .ok (.iconst 1, 1) := by decide +kernel
theorem dX8_isException_26 : decode cX8_isException 26 = .ok (.if_icmp .ne 7, 3) := by decide +kernel
theorem dX8_isException_29 : decode cX8_isException 29 = .ok (.iconst 1, 1) := by decide +kernel
theorem dX8_isException_30 : decode cX8_isException 30 = .ok (.goto 4, 3) := by decide +kernel
theorem dX8_isException_33 : decode cX8_isException 33 = .ok (.iconst 0, 1) := by decide +kernel
theorem dX8_isException_34 : decode cX8_isException 34 = .ok (.ireturn, 1) := by decide +kernel
theorem dX8_usualWhole_0 : decode cX8_usualWhole 0 = .ok (.aload_n 0, 1) := by decide +kernel
theorem dX8_usualWhole_1 : decode cX8_usualWhole 1 = .ok (.getfield 119, 3) := by decide +kernel
theorem dX8_usualWhole_4 : decode cX8_usualWhole 4 = .ok (.lstore_n 2, 1) := by decide +kernel
theorem dX8_usualWhole_5 : decode cX8_usualWhole 5 = .ok (.iconst 0, 1) := by decide +kernel
theorem dX8_usualWhole_6 : decode cX8_usualWhole 6 = .ok (.istore 4, 2) := by decide +kernel
theorem dX8_usualWhole_8 : decode cX8_usualWhole 8 = .ok (.iconst 0, 1) := by decide +kernel
theorem dX8_usualWhole_9 : decode cX8_usualWhole 9 = .ok (.istore 5, 2) := by decide +kernel
theorem dX8_usualWhole_11 : decode cX8_usualWhole 11 = .ok (.iload 5, 2) := by decide +kernel
theorem dX8_usualWhole_13 : decode cX8_usualWhole 13 = .ok (.aload_n 0, 1) := by decide +kernel
theorem dX8_usualWhole_14 : decode cX8_usualWhole 14 = .ok (.iload_n 1, 1) := by decide +kernel
theorem dX8_usualWhole_15 : decode cX8_usualWhole 15 = .ok (.invokevirtual 106, 3) := by decide +kernel
theorem dX8_usualWhole_18 : decode cX8_usualWhole 18 = .ok (.if_icmp .ge 82, 3) := by decide +kernel
theorem dX8_usualWhole_21 : decode cX8_usualWhole 21 = .ok (.aload_n 0, 1) := by decide +kernel
theorem dX8_usualWhole_22 : decode cX8_usualWhole 22 = .ok (.aload_n 0, 1) := by decide +kernel
theorem dX8_usualWhole_23 : decode cX8_usualWhole 23 = .ok (.iload_n 1, 1) := by decide +kernel
theorem dX8_usualWhole_24 : decode cX8_usualWhole 24 = .ok (.invokevirtual 60, 3) := by decide +kernel
theorem dX8_usualWhole_27 : decode cX8_usualWhole 27 = .ok (.iload 5, 2) := by decide +kernel
theorem dX8_usualWhole_29 : decode cX8_usualWhole 29 = .ok (.iadd, 1) := by decide +kernel
theorem dX8_usualWhole_30 : decode cX8_usualWhole 30 = .ok (.aload_n 0, 1) := by decide +kernel
theorem dX8_usualWhole_31 : decode cX8_usualWhole 31 = .ok (.getfield 144, 3) := by decide +kernel
theorem dX8_usualWhole_34 : decode cX8_usualWhole 34 = .ok (.invokevirtual 201, 3) := by decide +kernel
theorem dX8_usualWhole_37 : decode cX8_usualWhole 37 = .ok (.lstore 6, 2) := by decide +kernel
theorem dX8_usualWhole_39 : decode cX8_usualWhole 39 = .ok (.lload 6, 2) := by decide +kernel
theorem dX8_usualWhole_41 : decode cX8_usualWhole 41 = .ok (.ldc2_w 132, 3) := by decide +kernel
theorem dX8_usualWhole_44 : decode cX8_usualWhole 44 = .ok (.lcmp, 1) := by decide +kernel
theorem dX8_usualWhole_45 : decode cX8_usualWhole 45 = .ok (.ifCond .ne 7, 3) := by decide +kernel
theorem dX8_usualWhole_48 : decode cX8_usualWhole 48 = .ok (.iconst 0, 1) := by decide +kernel
theorem dX8_usualWhole_49 : decode cX8_usualWhole 49 = .ok (.goto 10, 3) := by decide +kernel
theorem dX8_usualWhole_52 : decode cX8_usualWhole 52 = .ok (.aload_n 0, 1) := by decide +kernel
theorem dX8_usualWhole_53 : decode cX8_usualWhole 53 = .ok (.iload_n 1, 1) := by decide +kernel
theorem dX8_usualWhole_54 : decode cX8_usualWhole 54 = .ok (.lload 6, 2) := by decide +kernel
theorem dX8_usualWhole_56 : decode cX8_usualWhole 56 = .ok (.invokevirtual 210, 3) := by decide +kernel
theorem dX8_usualWhole_59 : decode cX8_usualWhole 59 = .ok (.istore 8, 2) := by decide +kernel
theorem dX8_usualWhole_61 : decode cX8_usualWhole 61 = .ok (.iload 8, 2) := by decide +kernel
theorem dX8_usualWhole_63 : decode cX8_usualWhole 63 = .ok (.iload 4, 2) := by decide +kernel
theorem dX8_usualWhole_65 : decode cX8_usualWhole 65 = .ok (.if_icmp .gt 22, 3) := by decide +kernel
theorem dX8_usualWhole_68 : decode cX8_usualWhole 68 = .ok (.iload 8, 2) := by decide +kernel
theorem dX8_usualWhole_70 : decode cX8_usualWhole 70 = .ok (.iload 4, 2) := by decide +kernel
theorem dX8_usualWhole_72 : decode cX8_usualWhole 72 = .ok (.if_icmp .ne 22, 3) := by decide +kernel
theorem dX8_usualWhole_75 : decode cX8_usualWhole 75 = .ok (.iload 8, 2) := by decide +kernel
theorem dX8_usualWhole_77 : decode cX8_usualWhole 77 = .ok (.ifCond .le 17, 3) := by decide +kernel
theorem dX8_usualWhole_80 : decode cX8_usualWhole 80 = .ok (.lload 6, 2) := by decide +kernel
theorem dX8_usualWhole_82 : decode cX8_usualWhole 82 = .ok (.lload_n 2, 1) := by decide +kernel
theorem dX8_usualWhole_83 : decode cX8_usualWhole 83 = .ok (.lcmp, 1) := by decide +kernel
theorem dX8_usualWhole_84 : decode cX8_usualWhole 84 = .ok (.ifCond .ge 10, 3) := by decide +kernel
theorem dX8_usualWhole_87 : decode cX8_usualWhole 87 = .ok (.lload 6, 2) := by decide +kernel
theorem dX8_usualWhole_89 : decode cX8_usualWhole 89 = .ok (.lstore_n 2, 1) := by decide +kernel
theorem dX8_usualWhole_90 : decode cX8_usualWhole 90 = .ok (.iload 8, 2) := by decide +kernel
theorem dX8_usualWhole_92 : decode cX8_usualWhole 92 = .ok (.istore 4, 2) := by decide +kernel
theorem dX8_usualWhole_94 : decode cX8_usualWhole 94 = .ok (.iinc 5 1, 3) := by decide +kernel
theorem dX8_usualWhole_97 : decode cX8_usualWhole 97 = .ok (.goto (-86), 3) := by decide +kernel
theorem dX8_usualWhole_100 : decode cX8_usualWhole 100 = .ok (.lload_n 2, 1) := by decide +kernel
theorem dX8_usualWhole_101 : decode cX8_usualWhole 101 = .ok (.lreturn, 1) := by decide +kernel
theorem dX8_countWhole_0 : decode cX8_countWhole 0 = .ok (.iconst 0, 1) := by decide +kernel
theorem dX8_countWhole_1 : decode cX8_countWhole 1 = .ok (.istore 4, 2) := by decide +kernel
theorem dX8_countWhole_3 : decode cX8_countWhole 3 = .ok (.iconst 0, 1) := by decide +kernel
theorem dX8_countWhole_4 : decode cX8_countWhole 4 = .ok (.istore 5, 2) := by decide +kernel
theorem dX8_countWhole_6 : decode cX8_countWhole 6 = .ok (.iload 5, 2) := by decide +kernel
theorem dX8_countWhole_8 : decode cX8_countWhole 8 = .ok (.aload_n 0, 1) := by decide +kernel
theorem dX8_countWhole_9 : decode cX8_countWhole 9 = .ok (.iload_n 1, 1) := by decide +kernel
theorem dX8_countWhole_10 : decode cX8_countWhole 10 = .ok (.invokevirtual 106, 3) := by decide +kernel
theorem dX8_countWhole_13 : decode cX8_countWhole 13 = .ok (.if_icmp .ge 33, 3) := by decide +kernel
theorem dX8_countWhole_16 : decode cX8_countWhole 16 = .ok (.aload_n 0, 1) := by decide +kernel
theorem dX8_countWhole_17 : decode cX8_countWhole 17 = .ok (.aload_n 0, 1) := by decide +kernel
theorem dX8_countWhole_18 : decode cX8_countWhole 18 = .ok (.iload_n 1, 1) := by decide +kernel
theorem dX8_countWhole_19 : decode cX8_countWhole 19 = .ok (.invokevirtual 60, 3) := by decide +kernel
theorem dX8_countWhole_22 : decode cX8_countWhole 22 = .ok (.iload 5, 2) := by decide +kernel
theorem dX8_countWhole_24 : decode cX8_countWhole 24 = .ok (.iadd, 1) := by decide +kernel
theorem dX8_countWhole_25 : decode cX8_countWhole 25 = .ok (.aload_n 0, 1) := by decide +kernel
theorem dX8_countWhole_26 : decode cX8_countWhole 26 = .ok (.getfield 144, 3) := by decide +kernel
theorem dX8_countWhole_29 : decode cX8_countWhole 29 = .ok (.invokevirtual 201, 3) := by decide +kernel
theorem dX8_countWhole_32 : decode cX8_countWhole 32 = .ok (.lload_n 2, 1) := by decide +kernel
theorem dX8_countWhole_33 : decode cX8_countWhole 33 = .ok (.lcmp, 1) := by decide +kernel
theorem dX8_countWhole_34 : decode cX8_countWhole 34 = .ok (.ifCond .ne 6, 3) := by decide +kernel
theorem dX8_countWhole_37 : decode cX8_countWhole 37 = .ok (.iinc 4 1, 3) := by decide +kernel
theorem dX8_countWhole_40 : decode cX8_countWhole 40 = .ok (.iinc 5 1, 3) := by decide +kernel
theorem dX8_countWhole_43 : decode cX8_countWhole 43 = .ok (.goto (-37), 3) := by decide +kernel
theorem dX8_countWhole_46 : decode cX8_countWhole 46 = .ok (.iload 4, 2) := by decide +kernel
theorem dX8_countWhole_48 : decode cX8_countWhole 48 = .ok (.ireturn, 1) := by decide +kernel
theorem dX8_total_0 : decode cX8_total 0 = .ok (.iconst 0, 1) := by decide +kernel
theorem dX8_total_1 : decode cX8_total 1 = .ok (.istore_n 1, 1) := by decide +kernel
theorem dX8_total_2 : decode cX8_total 2 = .ok (.iconst 0, 1) := by decide +kernel
theorem dX8_total_3 : decode cX8_total 3 = .ok (.istore_n 2, 1) := by decide +kernel
theorem dX8_total_4 : decode cX8_total 4 = .ok (.iload_n 2, 1) := by decide +kernel
theorem dX8_total_5 : decode cX8_total 5 = .ok (.aload_n 0, 1) := by decide +kernel
theorem dX8_total_6 : decode cX8_total 6 = .ok (.invokevirtual 100, 3) := by decide +kernel
theorem dX8_total_9 : decode cX8_total 9 = .ok (.if_icmp .ge 21, 3) := by decide +kernel
theorem dX8_total_12 : decode cX8_total 12 = .ok (.aload_n 0, 1) := by decide +kernel
theorem dX8_total_13 : decode cX8_total 13 = .ok (.iload_n 2, 1) := by decide +kernel
theorem dX8_total_14 : decode cX8_total 14 = .ok (.invokevirtual 207, 3) := by decide +kernel
theorem dX8_total_17 : decode cX8_total 17 = .ok (.iload_n 1, 1) := by decide +kernel
theorem dX8_total_18 : decode cX8_total 18 = .ok (.aload_n 0, 1) := by decide +kernel
theorem dX8_total_19 : decode cX8_total 19 = .ok (.getfield 186, 3) := by decide +kernel
theorem dX8_total_22 : decode cX8_total 22 = .ok (.iadd, 1) := by decide +kernel
theorem dX8_total_23 : decode cX8_total 23 = .ok (.istore_n 1, 1) := by decide +kernel
theorem dX8_total_24 : decode cX8_total 24 = .ok (.iinc 2 1, 3) := by decide +kernel
theorem dX8_total_27 : decode cX8_total 27 = .ok (.goto (-23), 3) := by decide +kernel
theorem dX8_total_30 : decode cX8_total 30 = .ok (.iload_n 1, 1) := by decide +kernel
theorem dX8_total_31 : decode cX8_total 31 = .ok (.ireturn, 1) := by decide +kernel
theorem dX8_rawTotal_0 : decode cX8_rawTotal 0 = .ok (.iconst 0, 1) := by decide +kernel
theorem dX8_rawTotal_1 : decode cX8_rawTotal 1 = .ok (.istore_n 1, 1) := by decide +kernel
theorem dX8_rawTotal_2 : decode cX8_rawTotal 2 = .ok (.iconst 0, 1) := by decide +kernel
theorem dX8_rawTotal_3 : decode cX8_rawTotal 3 = .ok (.istore_n 2, 1) := by decide +kernel
theorem dX8_rawTotal_4 : decode cX8_rawTotal 4 = .ok (.iload_n 2, 1) := by decide +kernel
theorem dX8_rawTotal_5 : decode cX8_rawTotal 5 = .ok (.aload_n 0, 1) := by decide +kernel
theorem dX8_rawTotal_6 : decode cX8_rawTotal 6 = .ok (.invokevirtual 100, 3) := by decide +kernel
theorem dX8_rawTotal_9 : decode cX8_rawTotal 9 = .ok (.if_icmp .ge 17, 3) := by decide +kernel
theorem dX8_rawTotal_12 : decode cX8_rawTotal 12 = .ok (.iload_n 1, 1) := by decide +kernel
theorem dX8_rawTotal_13 : decode cX8_rawTotal 13 = .ok (.aload_n 0, 1) := by decide +kernel
theorem dX8_rawTotal_14 : decode cX8_rawTotal 14 = .ok (.iload_n 2, 1) := by decide +kernel
theorem dX8_rawTotal_15 : decode cX8_rawTotal 15 = .ok (.invokevirtual 183, 3) := by decide +kernel
theorem dX8_rawTotal_18 : decode cX8_rawTotal 18 = .ok (.iadd, 1) := by decide +kernel
theorem dX8_rawTotal_19 : decode cX8_rawTotal 19 = .ok (.istore_n 1, 1) := by decide +kernel
theorem dX8_rawTotal_20 : decode cX8_rawTotal 20 = .ok (.iinc 2 1, 3) := by decide +kernel
theorem dX8_rawTotal_23 : decode cX8_rawTotal 23 = .ok (.goto (-19), 3) := by decide +kernel
theorem dX8_rawTotal_26 : decode cX8_rawTotal 26 = .ok (.iload_n 1, 1) := by decide +kernel
theorem dX8_rawTotal_27 : decode cX8_rawTotal 27 = .ok (.ireturn, 1) := by decide +kernel
theorem dX8_decimalTotal_0 : decode cX8_decimalTotal 0 = .ok (.iconst 0, 1) := by decide +kernel
theorem dX8_decimalTotal_1 : decode cX8_decimalTotal 1 = .ok (.istore_n 2, 1) := by decide +kernel
theorem dX8_decimalTotal_2 : decode cX8_decimalTotal 2 = .ok (.iconst 0, 1) := by decide +kernel
theorem dX8_decimalTotal_3 : decode cX8_decimalTotal 3 = .ok (.istore_n 3, 1) := by decide +kernel
theorem dX8_decimalTotal_4 : decode cX8_decimalTotal 4 = .ok (.iload_n 3, 1) := by decide +kernel
theorem dX8_decimalTotal_5 : decode cX8_decimalTotal 5 = .ok (.aload_n 0, 1) := by decide +kernel
theorem dX8_decimalTotal_6 : decode cX8_decimalTotal 6 = .ok (.invokevirtual 100, 3) := by decide +kernel
theorem dX8_decimalTotal_9 : decode cX8_decimalTotal 9 = .ok (.if_icmp .ge 18, 3) := by decide +kernel
theorem dX8_decimalTotal_12 : decode cX8_decimalTotal 12 = .ok (.iload_n 2, 1) := by decide +kernel
theorem dX8_decimalTotal_13 : decode cX8_decimalTotal 13 = .ok (.aload_n 0, 1) := by decide +kernel
theorem dX8_decimalTotal_14 : decode cX8_decimalTotal 14 = .ok (.iload_n 3, 1) := by decide +kernel
theorem dX8_decimalTotal_15 : decode cX8_decimalTotal 15 = .ok (.iload_n 1, 1) := by decide +kernel
theorem dX8_decimalTotal_16 : decode cX8_decimalTotal 16 = .ok (.invokevirtual 192, 3) := by decide +kernel
theorem dX8_decimalTotal_19 : decode cX8_decimalTotal 19 = .ok (.iadd, 1) := by decide +kernel
theorem dX8_decimalTotal_20 : decode cX8_decimalTotal 20 = .ok (.istore_n 2, 1) := by decide +kernel
theorem dX8_decimalTotal_21 : decode cX8_decimalTotal 21 = .ok (.iinc 3 1, 3) := by decide +kernel
theorem dX8_decimalTotal_24 : decode cX8_decimalTotal 24 = .ok (.goto (-20), 3) := by decide +kernel
theorem dX8_decimalTotal_27 : decode cX8_decimalTotal 27 = .ok (.iload_n 2, 1) := by decide +kernel
theorem dX8_decimalTotal_28 : decode cX8_decimalTotal 28 = .ok (.ireturn, 1) := by decide +kernel
theorem dX8_allExceptions_0 : decode cX8_allExceptions 0 = .ok (.iconst 0, 1) := by decide +kernel
theorem dX8_allExceptions_1 : decode cX8_allExceptions 1 = .ok (.istore_n 1, 1) := by decide +kernel
theorem dX8_allExceptions_2 : decode cX8_allExceptions 2 = .ok (.iconst 0, 1) := by decide +kernel
theorem dX8_allExceptions_3 : decode cX8_allExceptions 3 = .ok (.istore_n 2, 1) := by decide +kernel
theorem dX8_allExceptions_4 : decode cX8_allExceptions 4 = .ok (.iload_n 2, 1) := by decide +kernel
theorem dX8_allExceptions_5 : decode cX8_allExceptions 5 = .ok (.aload_n 0, 1) := by decide +kernel
theorem dX8_allExceptions_6 : decode cX8_allExceptions 6 = .ok (.invokevirtual 100, 3) := by decide +kernel
theorem dX8_allExceptions_9 : decode cX8_allExceptions 9 = .ok (.if_icmp .ge 24, 3) := by decide +kernel
theorem dX8_allExceptions_12 : decode cX8_allExceptions 12 = .ok (.aload_n 0, 1) := by decide +kernel
theorem dX8_allExceptions_13 : decode cX8_allExceptions 13 = .ok (.iload_n 2, 1) := by decide +kernel
theorem dX8_allExceptions_14 : decode cX8_allExceptions 14 = .ok (.invokevirtual 207, 3) := by decide +kernel
theorem dX8_allExceptions_17 : decode cX8_allExceptions 17 = .ok (.iload_n 1, 1) := by decide +kernel
theorem dX8_allExceptions_18 : decode cX8_allExceptions 18 = .ok (.aload_n 0, 1) := by decide +kernel
theorem dX8_allExceptions_19 : decode cX8_allExceptions 19 = .ok (.getfield 189, 3) := by decide +kernel
theorem dX8_allExceptions_22 : decode cX8_allExceptions 22 = .ok (.invokestatic 172, 3) := by decide +kernel
theorem dX8_allExceptions_25 : decode cX8_allExceptions 25 = .ok (.iadd, 1) := by decide +kernel
theorem dX8_allExceptions_26 : decode cX8_allExceptions 26 = .ok (.istore_n 1, 1) := by decide +kernel
theorem dX8_allExceptions_27 : decode cX8_allExceptions 27 = .ok (.iinc 2 1, 3) := by decide +kernel
theorem dX8_allExceptions_30 : decode cX8_allExceptions 30 = .ok (.goto (-26), 3) := by decide +kernel
theorem dX8_allExceptions_33 : decode cX8_allExceptions 33 = .ok (.iload_n 1, 1) := by decide +kernel
theorem dX8_allExceptions_34 : decode cX8_allExceptions 34 = .ok (.ireturn, 1) := by decide +kernel
theorem dX8_blocksOf_0 : decode cX8_blocksOf 0 = .ok (.iconst 0, 1) := by decide +kernel
theorem dX8_blocksOf_1 : decode cX8_blocksOf 1 = .ok (.istore_n 2, 1) := by decide +kernel
theorem dX8_blocksOf_2 : decode cX8_blocksOf 2 = .ok (.iconst 0, 1) := by decide +kernel
theorem dX8_blocksOf_3 : decode cX8_blocksOf 3 = .ok (.istore_n 3, 1) := by decide +kernel
theorem dX8_blocksOf_4 : decode cX8_blocksOf 4 = .ok (.iload_n 3, 1) := by decide +kernel
theorem dX8_blocksOf_5 : decode cX8_blocksOf 5 = .ok (.aload_n 0, 1) := by decide +kernel
theorem dX8_blocksOf_6 : decode cX8_blocksOf 6 = .ok (.invokevirtual 100, 3) := by decide +kernel
theorem dX8_blocksOf_9 : decode cX8_blocksOf 9 = .ok (.if_icmp .ge 30, 3) := by decide +kernel
theorem dX8_blocksOf_12 : decode cX8_blocksOf 12 = .ok (.aload_n 0, 1) := by decide +kernel
theorem dX8_blocksOf_13 : decode cX8_blocksOf 13 = .ok (.iload_n 3, 1) := by decide +kernel
theorem dX8_blocksOf_14 : decode cX8_blocksOf 14 = .ok (.invokevirtual 207, 3) := by decide +kernel
theorem dX8_blocksOf_17 : decode cX8_blocksOf 17 = .ok (.iload_n 2, 1) := by decide +kernel
theorem dX8_blocksOf_18 : decode cX8_blocksOf 18 = .ok (.aload_n 0, 1) := by decide +kernel
theorem dX8_blocksOf_19 : decode cX8_blocksOf 19 = .ok (.getfield 180, 3) := by decide +kernel
theorem dX8_blocksOf_22 : decode cX8_blocksOf 22 = .ok (.iload_n 1, 1) := by decide +kernel
theorem dX8_blocksOf_23 : decode cX8_blocksOf 23 = .ok (.if_icmp .ne 7, 3) := by decide +kernel
theorem dX8_blocksOf_26 : decode cX8_blocksOf 26 = .ok (.iconst 1, 1) := by decide +kernel
theorem dX8_blocksOf_27 : decode cX8_blocksOf 27 = .ok (.goto 4, 3) := by decide +kernel
theorem dX8_blocksOf_30 : decode cX8_blocksOf 30 = .ok (.iconst 0, 1) := by decide +kernel
theorem dX8_blocksOf_31 : decode cX8_blocksOf 31 = .ok (.iadd, 1) := by decide +kernel
theorem dX8_blocksOf_32 : decode cX8_blocksOf 32 = .ok (.istore_n 2, 1) := by decide +kernel
theorem dX8_blocksOf_33 : decode cX8_blocksOf 33 = .ok (.iinc 3 1, 3) := by decide +kernel
theorem dX8_blocksOf_36 : decode cX8_blocksOf 36 = .ok (.goto (-32), 3) := by decide +kernel
theorem dX8_blocksOf_39 : decode cX8_blocksOf 39 = .ok (.iload_n 2, 1) := by decide +kernel
theorem dX8_blocksOf_40 : decode cX8_blocksOf 40 = .ok (.ireturn, 1) := by decide +kernel
theorem dX8_unlikeParts_0 : decode cX8_unlikeParts 0 = .ok (.iconst 0, 1) := by decide +kernel
theorem dX8_unlikeParts_1 : decode cX8_unlikeParts 1 = .ok (.istore_n 1, 1) := by decide +kernel
theorem dX8_unlikeParts_2 : decode cX8_unlikeParts 2 = .ok (.iconst 0, 1) := by decide +kernel
theorem dX8_unlikeParts_3 : decode cX8_unlikeParts 3 = .ok (.istore_n 2, 1) := by decide +kernel
theorem dX8_unlikeParts_4 : decode cX8_unlikeParts 4 = .ok (.iload_n 2, 1) := by decide +kernel
theorem dX8_unlikeParts_5 : decode cX8_unlikeParts 5 = .ok (.aload_n 0, 1) := by decide +kernel
theorem dX8_unlikeParts_6 : decode cX8_unlikeParts 6 = .ok (.getfield 55, 3) := by decide +kernel
theorem dX8_unlikeParts_9 : decode cX8_unlikeParts 9 = .ok (.if_icmp .ge 48, 3) := by decide +kernel
theorem dX8_unlikeParts_12 : decode cX8_unlikeParts 12 = .ok (.iconst 0, 1) := by decide +kernel
theorem dX8_unlikeParts_13 : decode cX8_unlikeParts 13 = .ok (.istore_n 3, 1) := by decide +kernel
theorem dX8_unlikeParts_14 : decode cX8_unlikeParts 14 = .ok (.iload_n 3, 1) := by decide +kernel
theorem dX8_unlikeParts_15 : decode cX8_unlikeParts 15 = .ok (.iload_n 2, 1) := by decide +kernel
theorem dX8_unlikeParts_16 : decode cX8_unlikeParts 16 = .ok (.if_icmp .ge 22, 3) := by decide +kernel
theorem dX8_unlikeParts_19 : decode cX8_unlikeParts 19 = .ok (.aload_n 0, 1) := by decide +kernel
theorem dX8_unlikeParts_20 : decode cX8_unlikeParts 20 = .ok (.iload_n 3, 1) := by decide +kernel
theorem dX8_unlikeParts_21 : decode cX8_unlikeParts 21 = .ok (.invokevirtual 150, 3) := by decide +kernel
theorem dX8_unlikeParts_24 : decode cX8_unlikeParts 24 = .ok (.aload_n 0, 1) := by decide +kernel
theorem dX8_unlikeParts_25 : decode cX8_unlikeParts 25 = .ok (.iload_n 2, 1) := by decide +kernel
theorem dX8_unlikeParts_26 : decode cX8_unlikeParts 26 = .ok (.invokevirtual 150, 3) := by decide +kernel
theorem dX8_unlikeParts_29 : decode cX8_unlikeParts 29 = .ok (.if_icmp .eq 9, 3) := by decide +kernel
theorem dX8_unlikeParts_32 : decode cX8_unlikeParts 32 = .ok (.iinc 3 1, 3) := by decide +kernel
theorem dX8_unlikeParts_35 : decode cX8_unlikeParts 35 = .ok (.goto (-21), 3) := by decide +kernel
theorem dX8_unlikeParts_38 : decode cX8_unlikeParts 38 = .ok (.iload_n 1, 1) := by decide +kernel
theorem dX8_unlikeParts_39 : decode cX8_unlikeParts 39 = .ok (.iload_n 3, 1) := by decide +kernel
theorem dX8_unlikeParts_40 : decode cX8_unlikeParts 40 = .ok (.iload_n 2, 1) := by decide +kernel
theorem dX8_unlikeParts_41 : decode cX8_unlikeParts 41 = .ok (.if_icmp .ne 7, 3) := by decide +kernel
theorem dX8_unlikeParts_44 : decode cX8_unlikeParts 44 = .ok (.iconst 1, 1) := by decide +kernel
theorem dX8_unlikeParts_45 : decode cX8_unlikeParts 45 = .ok (.goto 4, 3) := by decide +kernel
theorem dX8_unlikeParts_48 : decode cX8_unlikeParts 48 = .ok (.iconst 0, 1) := by decide +kernel
theorem dX8_unlikeParts_49 : decode cX8_unlikeParts 49 = .ok (.iadd, 1) := by decide +kernel
theorem dX8_unlikeParts_50 : decode cX8_unlikeParts 50 = .ok (.istore_n 1, 1) := by decide +kernel
theorem dX8_unlikeParts_51 : decode cX8_unlikeParts 51 = .ok (.iinc 2 1, 3) := by decide +kernel
theorem dX8_unlikeParts_54 : decode cX8_unlikeParts 54 = .ok (.goto (-50), 3) := by decide +kernel
theorem dX8_unlikeParts_57 : decode cX8_unlikeParts 57 = .ok (.iload_n 1, 1) := by decide +kernel
theorem dX8_unlikeParts_58 : decode cX8_unlikeParts 58 = .ok (.ireturn, 1) := by decide +kernel
theorem dJ13_bitCount_95d88_0 : decode cJ13_bitCount_95d88 0 = .ok (.lload_n 0, 1) := by decide +kernel
theorem dJ13_bitCount_95d88_1 : decode cJ13_bitCount_95d88 1 = .ok (.lload_n 0, 1) := by decide +kernel
theorem dJ13_bitCount_95d88_2 : decode cJ13_bitCount_95d88 2 = .ok (.iconst 1, 1) := by decide +kernel
theorem dJ13_bitCount_95d88_3 : decode cJ13_bitCount_95d88 3 = .ok (.lushr, 1) := by decide +kernel
theorem dJ13_bitCount_95d88_4 : decode cJ13_bitCount_95d88 4 = .ok (.ldc2_w 314, 3) := by decide +kernel
theorem dJ13_bitCount_95d88_7 : decode cJ13_bitCount_95d88 7 = .ok (.land, 1) := by decide +kernel
theorem dJ13_bitCount_95d88_8 : decode cJ13_bitCount_95d88 8 = .ok (.lsub, 1) := by decide +kernel
theorem dJ13_bitCount_95d88_9 : decode cJ13_bitCount_95d88 9 = .ok (.lstore_n 0, 1) := by decide +kernel
theorem dJ13_bitCount_95d88_10 : decode cJ13_bitCount_95d88 10 = .ok (.lload_n 0, 1) := by decide +kernel
theorem dJ13_bitCount_95d88_11 : decode cJ13_bitCount_95d88 11 = .ok (.ldc2_w 316, 3) := by decide +kernel
theorem dJ13_bitCount_95d88_14 : decode cJ13_bitCount_95d88 14 = .ok (.land, 1) := by decide +kernel
theorem dJ13_bitCount_95d88_15 : decode cJ13_bitCount_95d88 15 = .ok (.lload_n 0, 1) := by decide +kernel
theorem dJ13_bitCount_95d88_16 : decode cJ13_bitCount_95d88 16 = .ok (.iconst 2, 1) := by decide +kernel
theorem dJ13_bitCount_95d88_17 : decode cJ13_bitCount_95d88 17 = .ok (.lushr, 1) := by decide +kernel
theorem dJ13_bitCount_95d88_18 : decode cJ13_bitCount_95d88 18 = .ok (.ldc2_w 316, 3) := by decide +kernel
theorem dJ13_bitCount_95d88_21 : decode cJ13_bitCount_95d88 21 = .ok (.land, 1) := by decide +kernel
theorem dJ13_bitCount_95d88_22 : decode cJ13_bitCount_95d88 22 = .ok (.ladd, 1) := by decide +kernel
theorem dJ13_bitCount_95d88_23 : decode cJ13_bitCount_95d88 23 = .ok (.lstore_n 0, 1) := by decide +kernel
theorem dJ13_bitCount_95d88_24 : decode cJ13_bitCount_95d88 24 = .ok (.lload_n 0, 1) := by decide +kernel
theorem dJ13_bitCount_95d88_25 : decode cJ13_bitCount_95d88 25 = .ok (.lload_n 0, 1) := by decide +kernel
theorem dJ13_bitCount_95d88_26 : decode cJ13_bitCount_95d88 26 = .ok (.iconst 4, 1) := by decide +kernel
theorem dJ13_bitCount_95d88_27 : decode cJ13_bitCount_95d88 27 = .ok (.lushr, 1) := by decide +kernel
theorem dJ13_bitCount_95d88_28 : decode cJ13_bitCount_95d88 28 = .ok (.ladd, 1) := by decide +kernel
theorem dJ13_bitCount_95d88_29 : decode cJ13_bitCount_95d88 29 = .ok (.ldc2_w 318, 3) := by decide +kernel
theorem dJ13_bitCount_95d88_32 : decode cJ13_bitCount_95d88 32 = .ok (.land, 1) := by decide +kernel
theorem dJ13_bitCount_95d88_33 : decode cJ13_bitCount_95d88 33 = .ok (.lstore_n 0, 1) := by decide +kernel
theorem dJ13_bitCount_95d88_34 : decode cJ13_bitCount_95d88 34 = .ok (.lload_n 0, 1) := by decide +kernel
theorem dJ13_bitCount_95d88_35 : decode cJ13_bitCount_95d88 35 = .ok (.lload_n 0, 1) := by decide +kernel
theorem dJ13_bitCount_95d88_36 : decode cJ13_bitCount_95d88 36 = .ok (.bipush 8, 2) := by decide +kernel
theorem dJ13_bitCount_95d88_38 : decode cJ13_bitCount_95d88 38 = .ok (.lushr, 1) := by decide +kernel
theorem dJ13_bitCount_95d88_39 : decode cJ13_bitCount_95d88 39 = .ok (.ladd, 1) := by decide +kernel
theorem dJ13_bitCount_95d88_40 : decode cJ13_bitCount_95d88 40 = .ok (.lstore_n 0, 1) := by decide +kernel
theorem dJ13_bitCount_95d88_41 : decode cJ13_bitCount_95d88 41 = .ok (.lload_n 0, 1) := by decide +kernel
theorem dJ13_bitCount_95d88_42 : decode cJ13_bitCount_95d88 42 = .ok (.lload_n 0, 1) := by decide +kernel
theorem dJ13_bitCount_95d88_43 : decode cJ13_bitCount_95d88 43 = .ok (.bipush 16, 2) := by decide +kernel
theorem dJ13_bitCount_95d88_45 : decode cJ13_bitCount_95d88 45 = .ok (.lushr, 1) := by decide +kernel
theorem dJ13_bitCount_95d88_46 : decode cJ13_bitCount_95d88 46 = .ok (.ladd, 1) := by decide +kernel
theorem dJ13_bitCount_95d88_47 : decode cJ13_bitCount_95d88 47 = .ok (.lstore_n 0, 1) := by decide +kernel
theorem dJ13_bitCount_95d88_48 : decode cJ13_bitCount_95d88 48 = .ok (.lload_n 0, 1) := by decide +kernel
theorem dJ13_bitCount_95d88_49 : decode cJ13_bitCount_95d88 49 = .ok (.lload_n 0, 1) := by decide +kernel
theorem dJ13_bitCount_95d88_50 : decode cJ13_bitCount_95d88 50 = .ok (.bipush 32, 2) := by decide +kernel
theorem dJ13_bitCount_95d88_52 : decode cJ13_bitCount_95d88 52 = .ok (.lushr, 1) := by decide +kernel
theorem dJ13_bitCount_95d88_53 : decode cJ13_bitCount_95d88 53 = .ok (.ladd, 1) := by decide +kernel
theorem dJ13_bitCount_95d88_54 : decode cJ13_bitCount_95d88 54 = .ok (.lstore_n 0, 1) := by decide +kernel
theorem dJ13_bitCount_95d88_55 : decode cJ13_bitCount_95d88 55 = .ok (.lload_n 0, 1) := by decide +kernel
theorem dJ13_bitCount_95d88_56 : decode cJ13_bitCount_95d88 56 = .ok (.l2i, 1) := by decide +kernel
theorem dJ13_bitCount_95d88_57 : decode cJ13_bitCount_95d88 57 = .ok (.bipush 127, 2) := by decide +kernel
theorem dJ13_bitCount_95d88_59 : decode cJ13_bitCount_95d88 59 = .ok (.iand, 1) := by decide +kernel
theorem dJ13_bitCount_95d88_60 : decode cJ13_bitCount_95d88 60 = .ok (.ireturn, 1) := by decide +kernel
theorem dJ6_bitCount_0f7a4_0 : decode cJ6_bitCount_0f7a4 0 = .ok (.iload_n 0, 1) := by decide +kernel
theorem dJ6_bitCount_0f7a4_1 : decode cJ6_bitCount_0f7a4 1 = .ok (.iload_n 0, 1) := by decide +kernel
theorem dJ6_bitCount_0f7a4_2 : decode cJ6_bitCount_0f7a4 2 = .ok (.iconst 1, 1) := by decide +kernel
theorem dJ6_bitCount_0f7a4_3 : decode cJ6_bitCount_0f7a4 3 = .ok (.iushr, 1) := by decide +kernel
theorem dJ6_bitCount_0f7a4_4 : decode cJ6_bitCount_0f7a4 4 = .ok (.ldc_w 265, 3) := by decide +kernel
theorem dJ6_bitCount_0f7a4_7 : decode cJ6_bitCount_0f7a4 7 = .ok (.iand, 1) := by decide +kernel
theorem dJ6_bitCount_0f7a4_8 : decode cJ6_bitCount_0f7a4 8 = .ok (.isub, 1) := by decide +kernel
theorem dJ6_bitCount_0f7a4_9 : decode cJ6_bitCount_0f7a4 9 = .ok (.istore_n 0, 1) := by decide +kernel
theorem dJ6_bitCount_0f7a4_10 : decode cJ6_bitCount_0f7a4 10 = .ok (.iload_n 0, 1) := by decide +kernel
theorem dJ6_bitCount_0f7a4_11 : decode cJ6_bitCount_0f7a4 11 = .ok (.ldc_w 266, 3) := by decide +kernel
theorem dJ6_bitCount_0f7a4_14 : decode cJ6_bitCount_0f7a4 14 = .ok (.iand, 1) := by decide +kernel
theorem dJ6_bitCount_0f7a4_15 : decode cJ6_bitCount_0f7a4 15 = .ok (.iload_n 0, 1) := by decide +kernel
theorem dJ6_bitCount_0f7a4_16 : decode cJ6_bitCount_0f7a4 16 = .ok (.iconst 2, 1) := by decide +kernel
theorem dJ6_bitCount_0f7a4_17 : decode cJ6_bitCount_0f7a4 17 = .ok (.iushr, 1) := by decide +kernel
theorem dJ6_bitCount_0f7a4_18 : decode cJ6_bitCount_0f7a4 18 = .ok (.ldc_w 266, 3) := by decide +kernel
theorem dJ6_bitCount_0f7a4_21 : decode cJ6_bitCount_0f7a4 21 = .ok (.iand, 1) := by decide +kernel
theorem dJ6_bitCount_0f7a4_22 : decode cJ6_bitCount_0f7a4 22 = .ok (.iadd, 1) := by decide +kernel
theorem dJ6_bitCount_0f7a4_23 : decode cJ6_bitCount_0f7a4 23 = .ok (.istore_n 0, 1) := by decide +kernel
theorem dJ6_bitCount_0f7a4_24 : decode cJ6_bitCount_0f7a4 24 = .ok (.iload_n 0, 1) := by decide +kernel
theorem dJ6_bitCount_0f7a4_25 : decode cJ6_bitCount_0f7a4 25 = .ok (.iload_n 0, 1) := by decide +kernel
theorem dJ6_bitCount_0f7a4_26 : decode cJ6_bitCount_0f7a4 26 = .ok (.iconst 4, 1) := by decide +kernel
theorem dJ6_bitCount_0f7a4_27 : decode cJ6_bitCount_0f7a4 27 = .ok (.iushr, 1) := by decide +kernel
theorem dJ6_bitCount_0f7a4_28 : decode cJ6_bitCount_0f7a4 28 = .ok (.iadd, 1) := by decide +kernel
theorem dJ6_bitCount_0f7a4_29 : decode cJ6_bitCount_0f7a4 29 = .ok (.ldc_w 267, 3) := by decide +kernel
theorem dJ6_bitCount_0f7a4_32 : decode cJ6_bitCount_0f7a4 32 = .ok (.iand, 1) := by decide +kernel
theorem dJ6_bitCount_0f7a4_33 : decode cJ6_bitCount_0f7a4 33 = .ok (.istore_n 0, 1) := by decide +kernel
theorem dJ6_bitCount_0f7a4_34 : decode cJ6_bitCount_0f7a4 34 = .ok (.iload_n 0, 1) := by decide +kernel
theorem dJ6_bitCount_0f7a4_35 : decode cJ6_bitCount_0f7a4 35 = .ok (.iload_n 0, 1) := by decide +kernel
theorem dJ6_bitCount_0f7a4_36 : decode cJ6_bitCount_0f7a4 36 = .ok (.bipush 8, 2) := by decide +kernel
theorem dJ6_bitCount_0f7a4_38 : decode cJ6_bitCount_0f7a4 38 = .ok (.iushr, 1) := by decide +kernel
theorem dJ6_bitCount_0f7a4_39 : decode cJ6_bitCount_0f7a4 39 = .ok (.iadd, 1) := by decide +kernel
theorem dJ6_bitCount_0f7a4_40 : decode cJ6_bitCount_0f7a4 40 = .ok (.istore_n 0, 1) := by decide +kernel
theorem dJ6_bitCount_0f7a4_41 : decode cJ6_bitCount_0f7a4 41 = .ok (.iload_n 0, 1) := by decide +kernel
theorem dJ6_bitCount_0f7a4_42 : decode cJ6_bitCount_0f7a4 42 = .ok (.iload_n 0, 1) := by decide +kernel
theorem dJ6_bitCount_0f7a4_43 : decode cJ6_bitCount_0f7a4 43 = .ok (.bipush 16, 2) := by decide +kernel
theorem dJ6_bitCount_0f7a4_45 : decode cJ6_bitCount_0f7a4 45 = .ok (.iushr, 1) := by decide +kernel
theorem dJ6_bitCount_0f7a4_46 : decode cJ6_bitCount_0f7a4 46 = .ok (.iadd, 1) := by decide +kernel
theorem dJ6_bitCount_0f7a4_47 : decode cJ6_bitCount_0f7a4 47 = .ok (.istore_n 0, 1) := by decide +kernel
theorem dJ6_bitCount_0f7a4_48 : decode cJ6_bitCount_0f7a4 48 = .ok (.iload_n 0, 1) := by decide +kernel
theorem dJ6_bitCount_0f7a4_49 : decode cJ6_bitCount_0f7a4 49 = .ok (.bipush 63, 2) := by decide +kernel
theorem dJ6_bitCount_0f7a4_51 : decode cJ6_bitCount_0f7a4 51 = .ok (.iand, 1) := by decide +kernel
theorem dJ6_bitCount_0f7a4_52 : decode cJ6_bitCount_0f7a4 52 = .ok (.ireturn, 1) := by decide +kernel
theorem dJ9_max_7cf53_0 : decode cJ9_max_7cf53 0 = .ok (.iload_n 0, 1) := by decide +kernel
theorem dJ9_max_7cf53_1 : decode cJ9_max_7cf53 1 = .ok (.iload_n 1, 1) := by decide +kernel
theorem dJ9_max_7cf53_2 : decode cJ9_max_7cf53 2 = .ok (.if_icmp .lt 7, 3) := by decide +kernel
theorem dJ9_max_7cf53_5 : decode cJ9_max_7cf53 5 = .ok (.iload_n 0, 1) := by decide +kernel
theorem dJ9_max_7cf53_6 : decode cJ9_max_7cf53 6 = .ok (.goto 4, 3) := by decide +kernel
theorem dJ9_max_7cf53_9 : decode cJ9_max_7cf53 9 = .ok (.iload_n 1, 1) := by decide +kernel
theorem dJ9_max_7cf53_10 : decode cJ9_max_7cf53 10 = .ok (.ireturn, 1) := by decide +kernel
theorem dJ9_max_f86c9_0 : decode cJ9_max_f86c9 0 = .ok (.lload_n 0, 1) := by decide +kernel
theorem dJ9_max_f86c9_1 : decode cJ9_max_f86c9 1 = .ok (.lload_n 2, 1) := by decide +kernel
theorem dJ9_max_f86c9_2 : decode cJ9_max_f86c9 2 = .ok (.lcmp, 1) := by decide +kernel
theorem dJ9_max_f86c9_3 : decode cJ9_max_f86c9 3 = .ok (.ifCond .lt 7, 3) := by decide +kernel
theorem dJ9_max_f86c9_6 : decode cJ9_max_f86c9 6 = .ok (.lload_n 0, 1) := by decide +kernel
theorem dJ9_max_f86c9_7 : decode cJ9_max_f86c9 7 = .ok (.goto 4, 3) := by decide +kernel
theorem dJ9_max_f86c9_10 : decode cJ9_max_f86c9 10 = .ok (.lload_n 2, 1) := by decide +kernel
theorem dJ9_max_f86c9_11 : decode cJ9_max_f86c9 11 = .ok (.lreturn, 1) := by decide +kernel
theorem dJ9_min_7cf53_0 : decode cJ9_min_7cf53 0 = .ok (.iload_n 0, 1) := by decide +kernel
theorem dJ9_min_7cf53_1 : decode cJ9_min_7cf53 1 = .ok (.iload_n 1, 1) := by decide +kernel
theorem dJ9_min_7cf53_2 : decode cJ9_min_7cf53 2 = .ok (.if_icmp .gt 7, 3) := by decide +kernel
theorem dJ9_min_7cf53_5 : decode cJ9_min_7cf53 5 = .ok (.iload_n 0, 1) := by decide +kernel
theorem dJ9_min_7cf53_6 : decode cJ9_min_7cf53 6 = .ok (.goto 4, 3) := by decide +kernel
theorem dJ9_min_7cf53_9 : decode cJ9_min_7cf53 9 = .ok (.iload_n 1, 1) := by decide +kernel
theorem dJ9_min_7cf53_10 : decode cJ9_min_7cf53 10 = .ok (.ireturn, 1) := by decide +kernel
theorem dJ9_min_f86c9_0 : decode cJ9_min_f86c9 0 = .ok (.lload_n 0, 1) := by decide +kernel
theorem dJ9_min_f86c9_1 : decode cJ9_min_f86c9 1 = .ok (.lload_n 2, 1) := by decide +kernel
theorem dJ9_min_f86c9_2 : decode cJ9_min_f86c9 2 = .ok (.lcmp, 1) := by decide +kernel
theorem dJ9_min_f86c9_3 : decode cJ9_min_f86c9 3 = .ok (.ifCond .gt 7, 3) := by decide +kernel
theorem dJ9_min_f86c9_6 : decode cJ9_min_f86c9 6 = .ok (.lload_n 0, 1) := by decide +kernel
theorem dJ9_min_f86c9_7 : decode cJ9_min_f86c9 7 = .ok (.goto 4, 3) := by decide +kernel
theorem dJ9_min_f86c9_10 : decode cJ9_min_f86c9 10 = .ok (.lload_n 2, 1) := by decide +kernel
theorem dJ9_min_f86c9_11 : decode cJ9_min_f86c9 11 = .ok (.lreturn, 1) := by decide +kernel
theorem dJxe99ae_isNaN_b9ae7_0 : decode cJxe99ae_isNaN_b9ae7 0 = .ok (.dload_n 0, 1) := by decide +kernel
theorem dJxe99ae_isNaN_b9ae7_1 : decode cJxe99ae_isNaN_b9ae7 1 = .ok (.dload_n 0, 1) := by decide +kernel
theorem dJxe99ae_isNaN_b9ae7_2 : decode cJxe99ae_isNaN_b9ae7 2 = .ok (.dcmp .l, 1) := by decide +kernel
theorem dJxe99ae_isNaN_b9ae7_3 : decode cJxe99ae_isNaN_b9ae7 3 = .ok (.ifCond .eq 7, 3) := by decide +kernel
theorem dJxe99ae_isNaN_b9ae7_6 : decode cJxe99ae_isNaN_b9ae7 6 = .ok (.iconst 1, 1) := by decide +kernel
theorem dJxe99ae_isNaN_b9ae7_7 : decode cJxe99ae_isNaN_b9ae7 7 = .ok (.goto 4, 3) := by decide +kernel
theorem dJxe99ae_isNaN_b9ae7_10 : decode cJxe99ae_isNaN_b9ae7 10 = .ok (.iconst 0, 1) := by decide +kernel
theorem dJxe99ae_isNaN_b9ae7_11 : decode cJxe99ae_isNaN_b9ae7 11 = .ok (.ireturn, 1) := by decide +kernel
theorem dJxe99ae_doubleToLongBits_ccdee_0 : decode cJxe99ae_doubleToLongBits_ccdee 0 = .ok (.dload_n 0, 1) := by decide +kernel
theorem dJxe99ae_doubleToLongBits_ccdee_1 : decode cJxe99ae_doubleToLongBits_ccdee 1 = .ok (.invokestatic 122, 3) := by decide +kernel
theorem dJxe99ae_doubleToLongBits_ccdee_4 : decode cJxe99ae_doubleToLongBits_ccdee 4 = .ok (.ifCond .ne 8, 3) := by decide +kernel
theorem dJxe99ae_doubleToLongBits_ccdee_7 : decode cJxe99ae_doubleToLongBits_ccdee 7 = .ok (.dload_n 0, 1) := by decide +kernel
theorem dJxe99ae_doubleToLongBits_ccdee_8 : decode cJxe99ae_doubleToLongBits_ccdee 8 = .ok (.invokestatic 134, 3) := by decide +kernel
theorem dJxe99ae_doubleToLongBits_ccdee_11 : decode cJxe99ae_doubleToLongBits_ccdee 11 = .ok (.lreturn, 1) := by decide +kernel
theorem dJxe99ae_doubleToLongBits_ccdee_12 : decode cJxe99ae_doubleToLongBits_ccdee 12 = .ok (.ldc2_w 137, 3) := by decide +kernel
theorem dJxe99ae_doubleToLongBits_ccdee_15 : decode cJxe99ae_doubleToLongBits_ccdee 15 = .ok (.lreturn, 1) := by decide +kernel
