theorem dX0_init_0 : decode cX0_init 0 = .ok (.aload_n 0, 1) := by decide +kernel
theorem dX0_init_1 : decode cX0_init 1 = .ok (.invokespecial 3, 3) := by decide +kernel
theorem dX0_init_4 : decode cX0_init 4 = .ok (.aload_n 0, 1) := by decide +kernel
theorem dX0_init_5 : decode cX0_init 5 = .ok (.bipush 16, 2) := by decide +kernel
theorem dX0_init_7 : decode cX0_init 7 = .ok (.newarray .long, 2) := by decide +kernel
theorem dX0_init_9 : decode cX0_init 9 = .ok (.putfield 9, 3) := by decide +kernel
theorem dX0_init_12 : decode cX0_init 12 = .ok (.aload_n 0, 1) := by decide +kernel
theorem dX0_init_13 : decode cX0_init 13 = .ok (.bipush 8, 2) := by decide +kernel
theorem dX0_init_15 : decode cX0_init 15 = .ok (.newarray .int, 2) := by decide +kernel
theorem dX0_init_17 : decode cX0_init 17 = .ok (.putfield 15, 3) := by decide +kernel
theorem dX0_init_20 : decode cX0_init 20 = .ok (.aload_n 0, 1) := by decide +kernel
theorem dX0_init_21 : decode cX0_init 21 = .ok (.aload_n 1, 1) := by decide +kernel
theorem dX0_init_22 : decode cX0_init 22 = .ok (.putfield 19, 3) := by decide +kernel
theorem dX0_init_25 : decode cX0_init 25 = .ok (.aload_n 0, 1) := by decide +kernel
theorem dX0_init_26 : decode cX0_init 26 = .ok (.aload_n 2, 1) := by decide +kernel
theorem dX0_init_27 : decode cX0_init 27 = .ok (.putfield 23, 3) := by decide +kernel
theorem dX0_init_30 : decode cX0_init 30 = .ok (.return_, 1) := by decide +kernel
theorem dX0_read_0 : decode cX0_read 0 = .ok (.aload_n 0, 1) := by decide +kernel
theorem dX0_read_1 : decode cX0_read 1 = .ok (.iconst 0, 1) := by decide +kernel
theorem dX0_read_2 : decode cX0_read 2 = .ok (.putfield 27, 3) := by decide +kernel
theorem dX0_read_5 : decode cX0_read 5 = .ok (.aload_n 0, 1) := by decide +kernel
theorem dX0_read_6 : decode cX0_read 6 = .ok (.iconst 0, 1) := by decide +kernel
theorem dX0_read_7 : decode cX0_read 7 = .ok (.iconst 2, 1) := by decide +kernel
theorem dX0_read_8 : decode cX0_read 8 = .ok (.invokevirtual 31, 3) := by decide +kernel
theorem dX0_read_11 : decode cX0_read 11 = .ok (.ifCond .ne 8, 3) := by decide +kernel
theorem dX0_read_14 : decode cX0_read 14 = .ok (.aload_n 0, 1) := by decide +kernel
theorem dX0_read_15 : decode cX0_read 15 = .ok (.getfield 27, 3) := by decide +kernel
theorem dX0_read_18 : decode cX0_read 18 = .ok (.ireturn, 1) := by decide +kernel
theorem dX0_read_19 : decode cX0_read 19 = .ok (.aload_n 0, 1) := by decide +kernel
theorem dX0_read_20 : decode cX0_read 20 = .ok (.getfield 35, 3) := by decide +kernel
theorem dX0_read_23 : decode cX0_read 23 = .ok (.l2i, 1) := by decide +kernel
theorem dX0_read_24 : decode cX0_read 24 = .ok (.istore_n 1, 1) := by decide +kernel
theorem dX0_read_25 : decode cX0_read 25 = .ok (.aload_n 0, 1) := by decide +kernel
theorem dX0_read_26 : decode cX0_read 26 = .ok (.iconst 1, 1) := by decide +kernel
theorem dX0_read_27 : decode cX0_read 27 = .ok (.bipush 16, 2) := by decide +kernel
theorem dX0_read_29 : decode cX0_read 29 = .ok (.invokevirtual 31, 3) := by decide +kernel
theorem dX0_read_32 : decode cX0_read 32 = .ok (.ifCond .ne 8, 3) := by decide +kernel
theorem dX0_read_35 : decode cX0_read 35 = .ok (.aload_n 0, 1) := by decide +kernel
theorem dX0_read_36 : decode cX0_read 36 = .ok (.getfield 27, 3) := by decide +kernel
theorem dX0_read_39 : decode cX0_read 39 = .ok (.ireturn, 1) := by decide +kernel
theorem dX0_read_40 : decode cX0_read 40 = .ok (.aload_n 0, 1) := by decide +kernel
theorem dX0_read_41 : decode cX0_read 41 = .ok (.aload_n 0, 1) := by decide +kernel
theorem dX0_read_42 : decode cX0_read 42 = .ok (.getfield 35, 3) := by decide +kernel
theorem dX0_read_45 : decode cX0_read 45 = .ok (.l2i, 1) := by decide +kernel
theorem dX0_read_46 : decode cX0_read 46 = .ok (.putfield 39, 3) := by decide +kernel
theorem dX0_read_49 : decode cX0_read 49 = .ok (.aload_n 0, 1) := by decide +kernel
theorem dX0_read_50 : decode cX0_read 50 = .ok (.iload_n 1, 1) := by decide +kernel
theorem dX0_read_51 : decode cX0_read 51 = .ok (.invokevirtual 42, 3) := by decide +kernel
theorem dX0_read_54 : decode cX0_read 54 = .ok (.ifCond .eq 10, 3) := by decide +kernel
theorem dX0_read_57 : decode cX0_read 57 = .ok (.aload_n 0, 1) := by decide +kernel
theorem dX0_read_58 : decode cX0_read 58 = .ok (.invokevirtual 46, 3) := by decide +kernel
theorem dX0_read_61 : decode cX0_read 61 = .ok (.ifCond .ne 8, 3) := by decide +kernel
theorem dX0_read_64 : decode cX0_read 64 = .ok (.aload_n 0, 1) := by decide +kernel
theorem dX0_read_65 : decode cX0_read 65 = .ok (.getfield 27, 3) := by decide +kernel
theorem dX0_read_68 : decode cX0_read 68 = .ok (.ireturn, 1) := by decide +kernel
theorem dX0_read_69 : decode cX0_read 69 = .ok (.aload_n 0, 1) := by decide +kernel
theorem dX0_read_70 : decode cX0_read 70 = .ok (.getfield 27, 3) := by decide +kernel
theorem dX0_read_73 : decode cX0_read 73 = .ok (.aload_n 0, 1) := by decide +kernel
theorem dX0_read_74 : decode cX0_read 74 = .ok (.getfield 19, 3) := by decide +kernel
theorem dX0_read_77 : decode cX0_read 77 = .ok (.getfield 50, 3) := by decide +kernel
theorem dX0_read_80 : decode cX0_read 80 = .ok (.if_icmp .ge 10, 3) := by decide +kernel
theorem dX0_read_83 : decode cX0_read 83 = .ok (.aload_n 0, 1) := by decide +kernel
theorem dX0_read_84 : decode cX0_read 84 = .ok (.getfield 27, 3) := by decide +kernel
theorem dX0_read_87 : decode cX0_read 87 = .ok (.goto 4, 3) := by decide +kernel
theorem dX0_read_90 : decode cX0_read 90 = .ok (.iconst (-1), 1) := by decide +kernel
theorem dX0_read_91 : decode cX0_read 91 = .ok (.ireturn, 1) := by decide +kernel
theorem dX0_valuesIn_0 : decode cX0_valuesIn 0 = .ok (.iload_n 1, 1) := by decide +kernel
theorem dX0_valuesIn_1 : decode cX0_valuesIn 1 = .ok (.ifCond .ne 8, 3) := by decide +kernel
theorem dX0_valuesIn_4 : decode cX0_valuesIn 4 = .ok (.aload_n 0, 1) := by decide +kernel
theorem dX0_valuesIn_5 : decode cX0_valuesIn 5 = .ok (.invokevirtual 55, 3) := by decide +kernel
theorem dX0_valuesIn_8 : decode cX0_valuesIn 8 = .ok (.ireturn, 1) := by decide +kernel
theorem dX0_valuesIn_9 : decode cX0_valuesIn 9 = .ok (.iload_n 1, 1) := by decide +kernel
theorem dX0_valuesIn_10 : decode cX0_valuesIn 10 = .ok (.iconst 1, 1) := by decide +kernel
theorem dX0_valuesIn_11 : decode cX0_valuesIn 11 = .ok (.if_icmp .ne 10, 3) := by decide +kernel
theorem dX0_valuesIn_14 : decode cX0_valuesIn 14 = .ok (.aload_n 0, 1) := by decide +kernel
theorem dX0_valuesIn_15 : decode cX0_valuesIn 15 = .ok (.invokevirtual 58, 3) := by decide +kernel
theorem dX0_valuesIn_18 : decode cX0_valuesIn 18 = .ok (.goto 7, 3) := by decide +kernel
theorem dX0_valuesIn_21 : decode cX0_valuesIn 21 = .ok (.aload_n 0, 1) := by decide +kernel
theorem dX0_valuesIn_22 : decode cX0_valuesIn 22 = .ok (.invokevirtual 61, 3) := by decide +kernel
theorem dX0_valuesIn_25 : decode cX0_valuesIn 25 = .ok (.ireturn, 1) := by decide +kernel
theorem dX0_checkIn_0 : decode cX0_checkIn 0 = .ok (.aload_n 0, 1) := by decide +kernel
theorem dX0_checkIn_1 : decode cX0_checkIn 1 = .ok (.getfield 19, 3) := by decide +kernel
theorem dX0_checkIn_4 : decode cX0_checkIn 4 = .ok (.aload_n 0, 1) := by decide +kernel
theorem dX0_checkIn_5 : decode cX0_checkIn 5 = .ok (.getfield 27, 3) := by decide +kernel
theorem dX0_checkIn_8 : decode cX0_checkIn 8 = .ok (.invokevirtual 64, 3) := by decide +kernel
theorem dX0_checkIn_11 : decode cX0_checkIn 11 = .ok (.istore_n 1, 1) := by decide +kernel
theorem dX0_checkIn_12 : decode cX0_checkIn 12 = .ok (.aload_n 0, 1) := by decide +kernel
theorem dX0_checkIn_13 : decode cX0_checkIn 13 = .ok (.iload_n 1, 1) := by decide +kernel
theorem dX0_checkIn_14 : decode cX0_checkIn 14 = .ok (.iload_n 1, 1) := by decide +kernel
theorem dX0_checkIn_15 : decode cX0_checkIn 15 = .ok (.invokevirtual 31, 3) := by decide +kernel
theorem dX0_checkIn_18 : decode cX0_checkIn 18 = .ok (.ireturn, 1) := by decide +kernel
theorem dX0_octetIn_0 : decode cX0_octetIn 0 = .ok (.aload_n 0, 1) := by decide +kernel
theorem dX0_octetIn_1 : decode cX0_octetIn 1 = .ok (.getfield 27, 3) := by decide +kernel
theorem dX0_octetIn_4 : decode cX0_octetIn 4 = .ok (.aload_n 0, 1) := by decide +kernel
theorem dX0_octetIn_5 : decode cX0_octetIn 5 = .ok (.getfield 19, 3) := by decide +kernel
theorem dX0_octetIn_8 : decode cX0_octetIn 8 = .ok (.getfield 50, 3) := by decide +kernel
theorem dX0_octetIn_11 : decode cX0_octetIn 11 = .ok (.if_icmp .lt 5, 3) := by decide +kernel
theorem dX0_octetIn_14 : decode cX0_octetIn 14 = .ok (.iconst 0, 1) := by decide +kernel
theorem dX0_octetIn_15 : decode cX0_octetIn 15 = .ok (.ireturn, 1) := by decide +kernel
theorem dX0_octetIn_16 : decode cX0_octetIn 16 = .ok (.aload_n 0, 1) := by decide +kernel
theorem dX0_octetIn_17 : decode cX0_octetIn 17 = .ok (.getfield 19, 3) := by decide +kernel
theorem dX0_octetIn_20 : decode cX0_octetIn 20 = .ok (.getfield 68, 3) := by decide +kernel
theorem dX0_octetIn_23 : decode cX0_octetIn 23 = .ok (.aload_n 0, 1) := by decide +kernel
theorem dX0_octetIn_24 : decode cX0_octetIn 24 = .ok (.getfield 27, 3) := by decide +kernel
theorem dX0_octetIn_27 : decode cX0_octetIn 27 = .ok (.iaload, 1) := by decide +kernel
theorem dX0_octetIn_28 : decode cX0_octetIn 28 = .ok (.istore_n 3, 1) := by decide +kernel
theorem dX0_octetIn_29 : decode cX0_octetIn 29 = .ok (.iload_n 3, 1) := by decide +kernel
theorem dX0_octetIn_30 : decode cX0_octetIn 30 = .ok (.iload_n 1, 1) := by decide +kernel
theorem dX0_octetIn_31 : decode cX0_octetIn 31 = .ok (.if_icmp .lt 8, 3) := by decide +kernel
theorem dX0_octetIn_34 : decode cX0_octetIn 34 = .ok (.iload_n 3, 1) := by decide +kernel
theorem dX0_octetIn_35 : decode cX0_octetIn 35 = .ok (.iload_n 2, 1) := by decide +kernel
theorem dX0_octetIn_36 : decode cX0_octetIn 36 = .ok (.if_icmp .le 5, 3) := by decide +kernel
theorem dX0_octetIn_39 : decode cX0_octetIn 39 = .ok (.iconst 0, 1) := by decide +kernel
theorem dX0_octetIn_40 : decode cX0_octetIn 40 = .ok (.ireturn, 1) := by decide +kernel
theorem dX0_octetIn_41 : decode cX0_octetIn 41 = .ok (.aload_n 0, 1) := by decide +kernel
theorem dX0_octetIn_42 : decode cX0_octetIn 42 = .ok (.iload_n 3, 1) := by decide +kernel
theorem dX0_octetIn_43 : decode cX0_octetIn 43 = .ok (.i2l, 1) := by decide +kernel
theorem dX0_octetIn_44 : decode cX0_octetIn 44 = .ok (.putfield 35, 3) := by decide +kernel
theorem dX0_octetIn_47 : decode cX0_octetIn 47 = .ok (.aload_n 0, 1) := by decide +kernel
theorem dX0_octetIn_48 : decode cX0_octetIn 48 = .ok (.dup, 1) := by decide +kernel
theorem dX0_octetIn_49 : decode cX0_octetIn 49 = .ok (.getfield 27, 3) := by decide +kernel
theorem dX0_octetIn_52 : decode cX0_octetIn 52 = .ok (.iconst 1, 1) := by decide +kernel
theorem dX0_octetIn_53 : decode cX0_octetIn 53 = .ok (.iadd, 1) := by decide +kernel
theorem dX0_octetIn_54 : decode cX0_octetIn 54 = .ok (.putfield 27, 3) := by decide +kernel
theorem dX0_octetIn_57 : decode cX0_octetIn 57 = .ok (.iconst 1, 1) := by decide +kernel
theorem dX0_octetIn_58 : decode cX0_octetIn 58 = .ok (.ireturn, 1) := by decide +kernel
theorem dX0_longIn_0 : decode cX0_longIn 0 = .ok (.lconst 0, 1) := by decide +kernel
theorem dX0_longIn_1 : decode cX0_longIn 1 = .ok (.lstore_n 1, 1) := by decide +kernel
theorem dX0_longIn_2 : decode cX0_longIn 2 = .ok (.iconst 0, 1) := by decide +kernel
theorem dX0_longIn_3 : decode cX0_longIn 3 = .ok (.istore_n 3, 1) := by decide +kernel
theorem dX0_longIn_4 : decode cX0_longIn 4 = .ok (.iload_n 3, 1) := by decide +kernel
theorem dX0_longIn_5 : decode cX0_longIn 5 = .ok (.bipush 8, 2) := by decide +kernel
theorem dX0_longIn_7 : decode cX0_longIn 7 = .ok (.if_icmp .ge 32, 3) := by decide +kernel
theorem dX0_longIn_10 : decode cX0_longIn 10 = .ok (.aload_n 0, 1) := by decide +kernel
theorem dX0_longIn_11 : decode cX0_longIn 11 = .ok (.iconst 0, 1) := by decide +kernel
theorem dX0_longIn_12 : decode cX0_longIn 12 = .ok (.sipush 255, 3) := by decide +kernel
theorem dX0_longIn_15 : decode cX0_longIn 15 = .ok (.invokevirtual 31, 3) := by decide +kernel
theorem dX0_longIn_18 : decode cX0_longIn 18 = .ok (.ifCond .ne 5, 3) := by decide +kernel
theorem dX0_longIn_21 : decode cX0_longIn 21 = .ok (.iconst 0, 1) := by decide +kernel
theorem dX0_longIn_22 : decode cX0_longIn 22 = .ok (.ireturn, 1) := by decide +kernel
theorem dX0_longIn_23 : decode cX0_longIn 23 = .ok (.lload_n 1, 1) := by decide +kernel
theorem dX0_longIn_24 : decode cX0_longIn 24 = .ok (.bipush 8, 2) := by decide +kernel
theorem dX0_longIn_26 : decode cX0_longIn 26 = .ok (.lshl, 1) := by decide +kernel
theorem dX0_longIn_27 : decode cX0_longIn 27 = .ok (.aload_n 0, 1) := by decide +kernel
theorem dX0_longIn_28 : decode cX0_longIn 28 = .ok (.getfield 35, 3) := by decide +kernel
theorem dX0_longIn_31 : decode cX0_longIn 31 = .ok (.lor, 1) := by decide +kernel
theorem dX0_longIn_32 : decode cX0_longIn 32 = .ok (.lstore_n 1, 1) := by decide +kernel
theorem dX0_longIn_33 : decode cX0_longIn 33 = .ok (.iinc 3 1, 3) := by decide +kernel
theorem dX0_longIn_36 : decode cX0_longIn 36 = .ok (.goto (-32), 3) := by decide +kernel
theorem dX0_longIn_39 : decode cX0_longIn 39 = .ok (.aload_n 0, 1) := by decide +kernel
theorem dX0_longIn_40 : decode cX0_longIn 40 = .ok (.lload_n 1, 1) := by decide +kernel
theorem dX0_longIn_41 : decode cX0_longIn 41 = .ok (.putfield 35, 3) := by decide +kernel
theorem dX0_longIn_44 : decode cX0_longIn 44 = .ok (.iconst 1, 1) := by decide +kernel
theorem dX0_longIn_45 : decode cX0_longIn 45 = .ok (.ireturn, 1) := by decide +kernel
theorem dX0_highIn_0 : decode cX0_highIn 0 = .ok (.iconst 1, 1) := by decide +kernel
theorem dX0_highIn_1 : decode cX0_highIn 1 = .ok (.iload_n 1, 1) := by decide +kernel
theorem dX0_highIn_2 : decode cX0_highIn 2 = .ok (.ishl, 1) := by decide +kernel
theorem dX0_highIn_3 : decode cX0_highIn 3 = .ok (.iconst 1, 1) := by decide +kernel
theorem dX0_highIn_4 : decode cX0_highIn 4 = .ok (.isub, 1) := by decide +kernel
theorem dX0_highIn_5 : decode cX0_highIn 5 = .ok (.istore_n 2, 1) := by decide +kernel
theorem dX0_highIn_6 : decode cX0_highIn 6 = .ok (.aload_n 0, 1) := by decide +kernel
theorem dX0_highIn_7 : decode cX0_highIn 7 = .ok (.iconst 0, 1) := by decide +kernel
theorem dX0_highIn_8 : decode cX0_highIn 8 = .ok (.iload_n 2, 1) := by decide +kernel
theorem dX0_highIn_9 : decode cX0_highIn 9 = .ok (.bipush 8, 2) := by decide +kernel
theorem dX0_highIn_11 : decode cX0_highIn 11 = .ok (.ishr, 1) := by decide +kernel
theorem dX0_highIn_12 : decode cX0_highIn 12 = .ok (.invokevirtual 31, 3) := by decide +kernel
theorem dX0_highIn_15 : decode cX0_highIn 15 = .ok (.ifCond .ne 5, 3) := by decide +kernel
theorem dX0_highIn_18 : decode cX0_highIn 18 = .ok (.iconst 0, 1) := by decide +kernel
theorem dX0_highIn_19 : decode cX0_highIn 19 = .ok (.ireturn, 1) := by decide +kernel
theorem dX0_highIn_20 : decode cX0_highIn 20 = .ok (.aload_n 0, 1) := by decide +kernel
theorem dX0_highIn_21 : decode cX0_highIn 21 = .ok (.getfield 35, 3) := by decide +kernel
theorem dX0_highIn_24 : decode cX0_highIn 24 = .ok (.lstore_n 3, 1) := by decide +kernel
theorem dX0_highIn_25 : decode cX0_highIn 25 = .ok (.aload_n 0, 1) := by decide +kernel
theorem dX0_highIn_26 : decode cX0_highIn 26 = .ok (.iconst 0, 1) := by decide +kernel
theorem dX0_highIn_27 : decode cX0_highIn 27 = .ok (.iload_n 2, 1) := by decide +kernel
theorem dX0_highIn_28 : decode cX0_highIn 28 = .ok (.sipush 255, 3) := by decide +kernel
theorem dX0_highIn_31 : decode cX0_highIn 31 = .ok (.iand, 1) := by decide +kernel
theorem dX0_highIn_32 : decode cX0_highIn 32 = .ok (.invokevirtual 31, 3) := by decide +kernel
theorem dX0_highIn_35 : decode cX0_highIn 35 = .ok (.ifCond .ne 5, 3) := by decide +kernel
theorem dX0_highIn_38 : decode cX0_highIn 38 = .ok (.iconst 0, 1) := by decide +kernel
theorem dX0_highIn_39 : decode cX0_highIn 39 = .ok (.ireturn, 1) := by decide +kernel
theorem dX0_highIn_40 : decode cX0_highIn 40 = .ok (.aload_n 0, 1) := by decide +kernel
theorem dX0_highIn_41 : decode cX0_highIn 41 = .ok (.lload_n 3, 1) := by decide +kernel
theorem dX0_highIn_42 : decode cX0_highIn 42 = .ok (.bipush 8, 2) := by decide +kernel
theorem dX0_highIn_44 : decode cX0_highIn 44 = .ok (.lshl, 1) := by decide +kernel
theorem dX0_highIn_45 : decode cX0_highIn 45 = .ok (.aload_n 0, 1) := by decide +kernel
theorem dX0_highIn_46 : decode cX0_highIn 46 = .ok (.getfield 35, 3) := by decide +kernel
theorem dX0_highIn_49 : decode cX0_highIn 49 = .ok (.lor, 1) := by decide +kernel
theorem dX0_highIn_50 : decode cX0_highIn 50 = .ok (.putfield 35, 3) := by decide +kernel
theorem dX0_highIn_53 : decode cX0_highIn 53 = .ok (.iconst 1, 1) := by decide +kernel
theorem dX0_highIn_54 : decode cX0_highIn 54 = .ok (.ireturn, 1) := by decide +kernel
theorem dX0_bitsIn_0 : decode cX0_bitsIn 0 = .ok (.lconst 0, 1) := by decide +kernel
theorem dX0_bitsIn_1 : decode cX0_bitsIn 1 = .ok (.lstore_n 2, 1) := by decide +kernel
theorem dX0_bitsIn_2 : decode cX0_bitsIn 2 = .ok (.iconst 0, 1) := by decide +kernel
theorem dX0_bitsIn_3 : decode cX0_bitsIn 3 = .ok (.istore 4, 2) := by decide +kernel
theorem dX0_bitsIn_5 : decode cX0_bitsIn 5 = .ok (.iload 4, 2) := by decide +kernel
theorem dX0_bitsIn_7 : decode cX0_bitsIn 7 = .ok (.iload_n 1, 1) := by decide +kernel
theorem dX0_bitsIn_8 : decode cX0_bitsIn 8 = .ok (.if_icmp .ge 81, 3) := by decide +kernel
theorem dX0_bitsIn_11 : decode cX0_bitsIn 11 = .ok (.aload_n 0, 1) := by decide +kernel
theorem dX0_bitsIn_12 : decode cX0_bitsIn 12 = .ok (.getfield 71, 3) := by decide +kernel
theorem dX0_bitsIn_15 : decode cX0_bitsIn 15 = .ok (.iconst 3, 1) := by decide +kernel
theorem dX0_bitsIn_16 : decode cX0_bitsIn 16 = .ok (.ishr, 1) := by decide +kernel
theorem dX0_bitsIn_17 : decode cX0_bitsIn 17 = .ok (.istore 5, 2) := by decide +kernel
theorem dX0_bitsIn_19 : decode cX0_bitsIn 19 = .ok (.iload 5, 2) := by decide +kernel
theorem dX0_bitsIn_21 : decode cX0_bitsIn 21 = .ok (.aload_n 0, 1) := by decide +kernel
theorem dX0_bitsIn_22 : decode cX0_bitsIn 22 = .ok (.getfield 19, 3) := by decide +kernel
theorem dX0_bitsIn_25 : decode cX0_bitsIn 25 = .ok (.getfield 50, 3) := by decide +kernel
theorem dX0_bitsIn_28 : decode cX0_bitsIn 28 = .ok (.if_icmp .lt 16, 3) := by decide +kernel
theorem dX0_bitsIn_31 : decode cX0_bitsIn 31 = .ok (.aload_n 0, 1) := by decide +kernel
theorem dX0_bitsIn_32 : decode cX0_bitsIn 32 = .ok (.aload_n 0, 1) := by decide +kernel
theorem dX0_bitsIn_33 : decode cX0_bitsIn 33 = .ok (.getfield 19, 3) := by decide +kernel
theorem dX0_bitsIn_36 : decode cX0_bitsIn 36 = .ok (.getfield 50, 3) := by decide +kernel
theorem dX0_bitsIn_39 : decode cX0_bitsIn 39 = .ok (.putfield 27, 3) := by decide +kernel
theorem dX0_bitsIn_42 : decode cX0_bitsIn 42 = .ok (.iconst 0, 1) := by decide +kernel
theorem dX0_bitsIn_43 : decode cX0_bitsIn 43 = .ok (.ireturn, 1) := by decide +kernel
theorem dX0_bitsIn_44 : decode cX0_bitsIn 44 = .ok (.lload_n 2, 1) := by decide +kernel
theorem dX0_bitsIn_45 : decode cX0_bitsIn 45 = .ok (.iconst 1, 1) := by decide +kernel
theorem dX0_bitsIn_46 : decode cX0_bitsIn 46 = .ok (.lshl, 1) := by decide +kernel
theorem dX0_bitsIn_47 : decode cX0_bitsIn 47 = .ok (.aload_n 0, 1) := by decide +kernel
theorem dX0_bitsIn_48 : decode cX0_bitsIn 48 = .ok (.getfield 19, 3) := by decide +kernel
theorem dX0_bitsIn_51 : decode cX0_bitsIn 51 = .ok (.getfield 68, 3) := by decide +kernel
theorem dX0_bitsIn_54 : decode cX0_bitsIn 54 = .ok (.iload 5, 2) := by decide +kernel
theorem dX0_bitsIn_56 : decode cX0_bitsIn 56 = .ok (.iaload, 1) := by decide +kernel
theorem dX0_bitsIn_57 : decode cX0_bitsIn 57 = .ok (.bipush 7, 2) := by decide +kernel
theorem dX0_bitsIn_59 : decode cX0_bitsIn 59 = .ok (.aload_n 0, 1) := by decide +kernel
theorem dX0_bitsIn_60 : decode cX0_bitsIn 60 = .ok (.getfield 71, 3) := by decide +kernel
theorem dX0_bitsIn_63 : decode cX0_bitsIn 63 = .ok (.bipush 7, 2) := by decide +kernel
theorem dX0_bitsIn_65 : decode cX0_bitsIn 65 = .ok (.iand, 1) := by decide +kernel
theorem dX0_bitsIn_66 : decode cX0_bitsIn 66 = .ok (.isub, 1) := by decide +kernel
theorem dX0_bitsIn_67 : decode cX0_bitsIn 67 = .ok (.ishr, 1) := by decide +kernel
theorem dX0_bitsIn_68 : decode cX0_bitsIn 68 = .ok (.iconst 1, 1) := by decide +kernel
theorem dX0_bitsIn_69 : decode cX0_bitsIn 69 = .ok (.iand, 1) := by decide +kernel
theorem dX0_bitsIn_70 : decode cX0_bitsIn 70 = .ok (.i2l, 1) := by decide +kernel
theorem dX0_bitsIn_71 : decode cX0_bitsIn 71 = .ok (.lor, 1) := by decide +kernel
theorem dX0_bitsIn_72 : decode cX0_bitsIn 72 = .ok (.lstore_n 2, 1) := by decide +kernel
theorem dX0_bitsIn_73 : decode cX0_bitsIn 73 = .ok (.aload_n 0, 1) := by decide +kernel
theorem dX0_bitsIn_74 : decode cX0_bitsIn 74 = .ok (.dup, 1) := by decide +kernel
theorem dX0_bitsIn_75 : decode cX0_bitsIn 75 = .ok (.getfield 71, 3) := by decide +kernel
theorem dX0_bitsIn_78 : decode cX0_bitsIn 78 = .ok (.iconst 1, 1) := by decide +kernel
theorem dX0_bitsIn_79 : decode cX0_bitsIn 79 = .ok (.iadd, 1) := by decide +kernel
theorem dX0_bitsIn_80 : decode cX0_bitsIn 80 = .ok (.putfield 71, 3) := by decide +kernel
theorem dX0_bitsIn_83 : decode cX0_bitsIn 83 = .ok (.iinc 4 1, 3) := by decide +kernel
theorem dX0_bitsIn_86 : decode cX0_bitsIn 86 = .ok (.goto (-81), 3) := by decide +kernel
theorem dX0_bitsIn_89 : decode cX0_bitsIn 89 = .ok (.aload_n 0, 1) := by decide +kernel
theorem dX0_bitsIn_90 : decode cX0_bitsIn 90 = .ok (.lload_n 2, 1) := by decide +kernel
theorem dX0_bitsIn_91 : decode cX0_bitsIn 91 = .ok (.putfield 35, 3) := by decide +kernel
theorem dX0_bitsIn_94 : decode cX0_bitsIn 94 = .ok (.iconst 1, 1) := by decide +kernel
theorem dX0_bitsIn_95 : decode cX0_bitsIn 95 = .ok (.ireturn, 1) := by decide +kernel
theorem dX0_fillingIn_0 : decode cX0_fillingIn 0 = .ok (.aload_n 0, 1) := by decide +kernel
theorem dX0_fillingIn_1 : decode cX0_fillingIn 1 = .ok (.aload_n 0, 1) := by decide +kernel
theorem dX0_fillingIn_2 : decode cX0_fillingIn 2 = .ok (.getfield 71, 3) := by decide +kernel
theorem dX0_fillingIn_5 : decode cX0_fillingIn 5 = .ok (.ineg, 1) := by decide +kernel
theorem dX0_fillingIn_6 : decode cX0_fillingIn 6 = .ok (.bipush 7, 2) := by decide +kernel
theorem dX0_fillingIn_8 : decode cX0_fillingIn 8 = .ok (.iand, 1) := by decide +kernel
theorem dX0_fillingIn_9 : decode cX0_fillingIn 9 = .ok (.invokevirtual 74, 3) := by decide +kernel
theorem dX0_fillingIn_12 : decode cX0_fillingIn 12 = .ok (.ifCond .ne 5, 3) := by decide +kernel
theorem dX0_fillingIn_15 : decode cX0_fillingIn 15 = .ok (.iconst 0, 1) := by decide +kernel
theorem dX0_fillingIn_16 : decode cX0_fillingIn 16 = .ok (.ireturn, 1) := by decide +kernel
theorem dX0_fillingIn_17 : decode cX0_fillingIn 17 = .ok (.aload_n 0, 1) := by decide +kernel
theorem dX0_fillingIn_18 : decode cX0_fillingIn 18 = .ok (.getfield 35, 3) := by decide +kernel
theorem dX0_fillingIn_21 : decode cX0_fillingIn 21 = .ok (.lconst 0, 1) := by decide +kernel
theorem dX0_fillingIn_22 : decode cX0_fillingIn 22 = .ok (.lcmp, 1) := by decide +kernel
theorem dX0_fillingIn_23 : decode cX0_fillingIn 23 = .ok (.ifCond .eq 17, 3) := by decide +kernel
theorem dX0_fillingIn_26 : decode cX0_fillingIn 26 = .ok (.aload_n 0, 1) := by decide +kernel
theorem dX0_fillingIn_27 : decode cX0_fillingIn 27 = .ok (.aload_n 0, 1) := by decide +kernel
theorem dX0_fillingIn_28 : decode cX0_fillingIn 28 = .ok (.getfield 71, 3) := by decide +kernel
theorem dX0_fillingIn_31 : decode cX0_fillingIn 31 = .ok (.iconst 1, 1) := by decide +kernel
theorem dX0_fillingIn_32 : decode cX0_fillingIn 32 = .ok (.isub, 1) := by decide +kernel
theorem dX0_fillingIn_33 : decode cX0_fillingIn 33 = .ok (.iconst 3, 1) := by decide +kernel
theorem dX0_fillingIn_34 : decode cX0_fillingIn 34 = .ok (.ishr, 1) := by decide +kernel
theorem dX0_fillingIn_35 : decode cX0_fillingIn 35 = .ok (.putfield 27, 3) := by decide +kernel
theorem dX0_fillingIn_38 : decode cX0_fillingIn 38 = .ok (.iconst 0, 1) := by decide +kernel
theorem dX0_fillingIn_39 : decode cX0_fillingIn 39 = .ok (.ireturn, 1) := by decide +kernel
theorem dX0_fillingIn_40 : decode cX0_fillingIn 40 = .ok (.aload_n 0, 1) := by decide +kernel
theorem dX0_fillingIn_41 : decode cX0_fillingIn 41 = .ok (.aload_n 0, 1) := by decide +kernel
theorem dX0_fillingIn_42 : decode cX0_fillingIn 42 = .ok (.getfield 71, 3) := by decide +kernel
theorem dX0_fillingIn_45 : decode cX0_fillingIn 45 = .ok (.iconst 3, 1) := by decide +kernel
theorem dX0_fillingIn_46 : decode cX0_fillingIn 46 = .ok (.ishr, 1) := by decide +kernel
theorem dX0_fillingIn_47 : decode cX0_fillingIn 47 = .ok (.putfield 27, 3) := by decide +kernel
theorem dX0_fillingIn_50 : decode cX0_fillingIn 50 = .ok (.iconst 1, 1) := by decide +kernel
theorem dX0_fillingIn_51 : decode cX0_fillingIn 51 = .ok (.ireturn, 1) := by decide +kernel
theorem dX0_rawIn_0 : decode cX0_rawIn 0 = .ok (.iconst 0, 1) := by decide +kernel
theorem dX0_rawIn_1 : decode cX0_rawIn 1 = .ok (.istore_n 1, 1) := by decide +kernel
theorem dX0_rawIn_2 : decode cX0_rawIn 2 = .ok (.iload_n 1, 1) := by decide +kernel
theorem dX0_rawIn_3 : decode cX0_rawIn 3 = .ok (.aload_n 0, 1) := by decide +kernel
theorem dX0_rawIn_4 : decode cX0_rawIn 4 = .ok (.getfield 39, 3) := by decide +kernel
theorem dX0_rawIn_7 : decode cX0_rawIn 7 = .ok (.if_icmp .ge 28, 3) := by decide +kernel
theorem dX0_rawIn_10 : decode cX0_rawIn 10 = .ok (.aload_n 0, 1) := by decide +kernel
theorem dX0_rawIn_11 : decode cX0_rawIn 11 = .ok (.invokevirtual 77, 3) := by decide +kernel
theorem dX0_rawIn_14 : decode cX0_rawIn 14 = .ok (.ifCond .ne 5, 3) := by decide +kernel
theorem dX0_rawIn_17 : decode cX0_rawIn 17 = .ok (.iconst 0, 1) := by decide +kernel
theorem dX0_rawIn_18 : decode cX0_rawIn 18 = .ok (.ireturn, 1) := by decide +kernel
theorem dX0_rawIn_19 : decode cX0_rawIn 19 = .ok (.aload_n 0, 1) := by decide +kernel
theorem dX0_rawIn_20 : decode cX0_rawIn 20 = .ok (.getfield 9, 3) := by decide +kernel
theorem dX0_rawIn_23 : decode cX0_rawIn 23 = .ok (.iload_n 1, 1) := by decide +kernel
theorem dX0_rawIn_24 : decode cX0_rawIn 24 = .ok (.aload_n 0, 1) := by decide +kernel
theorem dX0_rawIn_25 : decode cX0_rawIn 25 = .ok (.getfield 35, 3) := by decide +kernel
theorem dX0_rawIn_28 : decode cX0_rawIn 28 = .ok (.lastore, 1) := by decide +kernel
theorem dX0_rawIn_29 : decode cX0_rawIn 29 = .ok (.iinc 1 1, 3) := by decide +kernel
theorem dX0_rawIn_32 : decode cX0_rawIn 32 = .ok (.goto (-30), 3) := by decide +kernel
theorem dX0_rawIn_35 : decode cX0_rawIn 35 = .ok (.iconst 1, 1) := by decide +kernel
theorem dX0_rawIn_36 : decode cX0_rawIn 36 = .ok (.ireturn, 1) := by decide +kernel
theorem dX0_decimalIn_0 : decode cX0_decimalIn 0 = .ok (.aload_n 0, 1) := by decide +kernel
theorem dX0_decimalIn_1 : decode cX0_decimalIn 1 = .ok (.iconst 0, 1) := by decide +kernel
theorem dX0_decimalIn_2 : decode cX0_decimalIn 2 = .ok (.bipush 14, 2) := by decide +kernel
theorem dX0_decimalIn_4 : decode cX0_decimalIn 4 = .ok (.invokevirtual 31, 3) := by decide +kernel
theorem dX0_decimalIn_7 : decode cX0_decimalIn 7 = .ok (.ifCond .ne 5, 3) := by decide +kernel
theorem dX0_decimalIn_10 : decode cX0_decimalIn 10 = .ok (.iconst 0, 1) := by decide +kernel
theorem dX0_decimalIn_11 : decode cX0_decimalIn 11 = .ok (.ireturn, 1) := by decide +kernel
theorem dX0_decimalIn_12 : decode cX0_decimalIn 12 = .ok (.aload_n 0, 1) := by decide +kernel
theorem dX0_decimalIn_13 : decode cX0_decimalIn 13 = .ok (.getfield 35, 3) := by decide +kernel
theorem dX0_decimalIn_16 : decode cX0_decimalIn 16 = .ok (.l2i, 1) := by decide +kernel
theorem dX0_decimalIn_17 : decode cX0_decimalIn 17 = .ok (.istore_n 1, 1) := by decide +kernel
theorem dX0_decimalIn_18 : decode cX0_decimalIn 18 = .ok (.aload_n 0, 1) := by decide +kernel
theorem dX0_decimalIn_19 : decode cX0_decimalIn 19 = .ok (.iconst 0, 1) := by decide +kernel
theorem dX0_decimalIn_20 : decode cX0_decimalIn 20 = .ok (.iload_n 1, 1) := by decide +kernel
theorem dX0_decimalIn_21 : decode cX0_decimalIn 21 = .ok (.invokevirtual 31, 3) := by decide +kernel
theorem dX0_decimalIn_24 : decode cX0_decimalIn 24 = .ok (.ifCond .ne 5, 3) := by decide +kernel
theorem dX0_decimalIn_27 : decode cX0_decimalIn 27 = .ok (.iconst 0, 1) := by decide +kernel
theorem dX0_decimalIn_28 : decode cX0_decimalIn 28 = .ok (.ireturn, 1) := by decide +kernel
theorem dX0_decimalIn_29 : decode cX0_decimalIn 29 = .ok (.aload_n 0, 1) := by decide +kernel
theorem dX0_decimalIn_30 : decode cX0_decimalIn 30 = .ok (.getfield 35, 3) := by decide +kernel
theorem dX0_decimalIn_33 : decode cX0_decimalIn 33 = .ok (.l2i, 1) := by decide +kernel
theorem dX0_decimalIn_34 : decode cX0_decimalIn 34 = .ok (.istore_n 2, 1) := by decide +kernel
theorem dX0_decimalIn_35 : decode cX0_decimalIn 35 = .ok (.aload_n 0, 1) := by decide +kernel
theorem dX0_decimalIn_36 : decode cX0_decimalIn 36 = .ok (.iconst 0, 1) := by decide +kernel
theorem dX0_decimalIn_37 : decode cX0_decimalIn 37 = .ok (.aload_n 0, 1) := by decide +kernel
theorem dX0_decimalIn_38 : decode cX0_decimalIn 38 = .ok (.getfield 39, 3) := by decide +kernel
theorem dX0_decimalIn_41 : decode cX0_decimalIn 41 = .ok (.invokevirtual 31, 3) := by decide +kernel
theorem dX0_decimalIn_44 : decode cX0_decimalIn 44 = .ok (.ifCond .ne 5, 3) := by decide +kernel
theorem dX0_decimalIn_47 : decode cX0_decimalIn 47 = .ok (.iconst 0, 1) := by decide +kernel
theorem dX0_decimalIn_48 : decode cX0_decimalIn 48 = .ok (.ireturn, 1) := by decide +kernel
theorem dX0_decimalIn_49 : decode cX0_decimalIn 49 = .ok (.aload_n 0, 1) := by decide +kernel
theorem dX0_decimalIn_50 : decode cX0_decimalIn 50 = .ok (.getfield 35, 3) := by decide +kernel
theorem dX0_decimalIn_53 : decode cX0_decimalIn 53 = .ok (.l2i, 1) := by decide +kernel
theorem dX0_decimalIn_54 : decode cX0_decimalIn 54 = .ok (.istore_n 3, 1) := by decide +kernel
theorem dX0_decimalIn_55 : decode cX0_decimalIn 55 = .ok (.aload_n 0, 1) := by decide +kernel
theorem dX0_decimalIn_56 : decode cX0_decimalIn 56 = .ok (.iload_n 1, 1) := by decide +kernel
theorem dX0_decimalIn_57 : decode cX0_decimalIn 57 = .ok (.iload_n 2, 1) := by decide +kernel
theorem dX0_decimalIn_58 : decode cX0_decimalIn 58 = .ok (.invokevirtual 80, 3) := by decide +kernel
theorem dX0_decimalIn_61 : decode cX0_decimalIn 61 = .ok (.ifCond .eq 15, 3) := by decide +kernel
theorem dX0_decimalIn_64 : decode cX0_decimalIn 64 = .ok (.aload_n 0, 1) := by decide +kernel
theorem dX0_decimalIn_65 : decode cX0_decimalIn 65 = .ok (.iload_n 3, 1) := by decide +kernel
theorem dX0_decimalIn_66 : decode cX0_decimalIn 66 = .ok (.invokevirtual 83, 3) := by decide +kernel
theorem dX0_decimalIn_69 : decode cX0_decimalIn 69 = .ok (.ifCond .eq 7, 3) := by decide +kernel
theorem dX0_decimalIn_72 : decode cX0_decimalIn 72 = .ok (.iconst 1, 1) := by decide +kernel
theorem dX0_decimalIn_73 : decode cX0_decimalIn 73 = .ok (.goto 4, 3) := by decide +kernel
theorem dX0_decimalIn_76 : decode cX0_decimalIn 76 = .ok (.iconst 0, 1) := by decide +kernel
theorem dX0_decimalIn_77 : decode cX0_decimalIn 77 = .ok (.ireturn, 1) := by decide +kernel
theorem dX0_wholesIn_0 : decode cX0_wholesIn 0 = .ok (.aload_n 0, 1) := by decide +kernel
theorem dX0_wholesIn_1 : decode cX0_wholesIn 1 = .ok (.invokevirtual 77, 3) := by decide +kernel
theorem dX0_wholesIn_4 : decode cX0_wholesIn 4 = .ok (.ifCond .ne 5, 3) := by decide +kernel
theorem dX0_wholesIn_7 : decode cX0_wholesIn 7 = .ok (.iconst 0, 1) := by decide +kernel
theorem dX0_wholesIn_8 : decode cX0_wholesIn 8 = .ok (.ireturn, 1) := by decide +kernel
theorem dX0_wholesIn_9 : decode cX0_wholesIn 9 = .ok (.aload_n 0, 1) := by decide +kernel
theorem dX0_wholesIn_10 : decode cX0_wholesIn 10 = .ok (.getfield 35, 3) := by decide +kernel
theorem dX0_wholesIn_13 : decode cX0_wholesIn 13 = .ok (.lstore_n 3, 1) := by decide +kernel
theorem dX0_wholesIn_14 : decode cX0_wholesIn 14 = .ok (.aload_n 0, 1) := by decide +kernel
theorem dX0_wholesIn_15 : decode cX0_wholesIn 15 = .ok (.iconst 0, 1) := by decide +kernel
theorem dX0_wholesIn_16 : decode cX0_wholesIn 16 = .ok (.bipush 53, 2) := by decide +kernel
theorem dX0_wholesIn_18 : decode cX0_wholesIn 18 = .ok (.invokevirtual 31, 3) := by decide +kernel
theorem dX0_wholesIn_21 : decode cX0_wholesIn 21 = .ok (.ifCond .ne 5, 3) := by decide +kernel
theorem dX0_wholesIn_24 : decode cX0_wholesIn 24 = .ok (.iconst 0, 1) := by decide +kernel
theorem dX0_wholesIn_25 : decode cX0_wholesIn 25 = .ok (.ireturn, 1) := by decide +kernel
theorem dX0_wholesIn_26 : decode cX0_wholesIn 26 = .ok (.aload_n 0, 1) := by decide +kernel
theorem dX0_wholesIn_27 : decode cX0_wholesIn 27 = .ok (.getfield 35, 3) := by decide +kernel
theorem dX0_wholesIn_30 : decode cX0_wholesIn 30 = .ok (.l2i, 1) := by decide +kernel
theorem dX0_wholesIn_31 : decode cX0_wholesIn 31 = .ok (.istore 5, 2) := by decide +kernel
theorem dX0_wholesIn_33 : decode cX0_wholesIn 33 = .ok (.aload_n 0, 1) := by decide +kernel
theorem dX0_wholesIn_34 : decode cX0_wholesIn 34 = .ok (.bipush 8, 2) := by decide +kernel
theorem dX0_wholesIn_36 : decode cX0_wholesIn 36 = .ok (.aload_n 0, 1) := by decide +kernel
theorem dX0_wholesIn_37 : decode cX0_wholesIn 37 = .ok (.getfield 27, 3) := by decide +kernel
theorem dX0_wholesIn_40 : decode cX0_wholesIn 40 = .ok (.imul, 1) := by decide +kernel
theorem dX0_wholesIn_41 : decode cX0_wholesIn 41 = .ok (.putfield 71, 3) := by decide +kernel
theorem dX0_wholesIn_44 : decode cX0_wholesIn 44 = .ok (.iconst 0, 1) := by decide +kernel
theorem dX0_wholesIn_45 : decode cX0_wholesIn 45 = .ok (.istore 6, 2) := by decide +kernel
theorem dX0_wholesIn_47 : decode cX0_wholesIn 47 = .ok (.iload 6, 2) := by decide +kernel
theorem dX0_wholesIn_49 : decode cX0_wholesIn 49 = .ok (.aload_n 0, 1) := by decide +kernel
theorem dX0_wholesIn_50 : decode cX0_wholesIn 50 = .ok (.getfield 39, 3) := by decide +kernel
theorem dX0_wholesIn_53 : decode cX0_wholesIn 53 = .ok (.if_icmp .ge 49, 3) := by decide +kernel
theorem dX0_wholesIn_56 : decode cX0_wholesIn 56 = .ok (.aload_n 0, 1) := by decide +kernel
theorem dX0_wholesIn_57 : decode cX0_wholesIn 57 = .ok (.iload 5, 2) := by decide +kernel
theorem dX0_wholesIn_59 : decode cX0_wholesIn 59 = .ok (.invokevirtual 74, 3) := by decide +kernel
theorem dX0_wholesIn_62 : decode cX0_wholesIn 62 = .ok (.ifCond .ne 5, 3) := by decide +kernel
theorem dX0_wholesIn_65 : decode cX0_wholesIn 65 = .ok (.iconst 0, 1) := by decide +kernel
theorem dX0_wholesIn_66 : decode cX0_wholesIn 66 = .ok (.ireturn, 1) := by decide +kernel
theorem dX0_wholesIn_67 : decode cX0_wholesIn 67 = .ok (.aload_n 0, 1) := by decide +kernel
theorem dX0_wholesIn_68 : decode cX0_wholesIn 68 = .ok (.getfield 9, 3) := by decide +kernel
theorem dX0_wholesIn_71 : decode cX0_wholesIn 71 = .ok (.iload 6, 2) := by decide +kernel
theorem dX0_wholesIn_73 : decode cX0_wholesIn 73 = .ok (.aload_n 0, 1) := by decide +kernel
theorem dX0_wholesIn_74 : decode cX0_wholesIn 74 = .ok (.getfield 23, 3) := by decide +kernel
theorem dX0_wholesIn_77 : decode cX0_wholesIn 77 = .ok (.aload_n 0, 1) := by decide +kernel
theorem dX0_wholesIn_78 : decode cX0_wholesIn 78 = .ok (.getfield 23, 3) := by decide +kernel
theorem dX0_wholesIn_81 : decode cX0_wholesIn 81 = .ok (.lload_n 3, 1) := by decide +kernel
theorem dX0_wholesIn_82 : decode cX0_wholesIn 82 = .ok (.aload_n 0, 1) := by decide +kernel
theorem dX0_wholesIn_83 : decode cX0_wholesIn 83 = .ok (.getfield 35, 3) := by decide +kernel
theorem dX0_wholesIn_86 : decode cX0_wholesIn 86 = .ok (.ladd, 1) := by decide +kernel
theorem dX0_wholesIn_87 : decode cX0_wholesIn 87 = .ok (.iload_n 1, 1) := by decide +kernel
theorem dX0_wholesIn_88 : decode cX0_wholesIn 88 = .ok (.iload_n 2, 1) := by decide +kernel
theorem dX0_wholesIn_89 : decode cX0_wholesIn 89 = .ok (.invokevirtual 86, 3) := by decide +kernel
theorem dX0_wholesIn_92 : decode cX0_wholesIn 92 = .ok (.invokevirtual 92, 3) := by decide +kernel
theorem dX0_wholesIn_95 : decode cX0_wholesIn 95 = .ok (.lastore, 1) := by decide +kernel
theorem dX0_wholesIn_96 : decode cX0_wholesIn 96 = .ok (.iinc 6 1, 3) := by decide +kernel
theorem dX0_wholesIn_99 : decode cX0_wholesIn 99 = .ok (.goto (-52), 3) := by decide +kernel
theorem dX0_wholesIn_102 : decode cX0_wholesIn 102 = .ok (.aload_n 0, 1) := by decide +kernel
theorem dX0_wholesIn_103 : decode cX0_wholesIn 103 = .ok (.invokevirtual 96, 3) := by decide +kernel
theorem dX0_wholesIn_106 : decode cX0_wholesIn 106 = .ok (.ireturn, 1) := by decide +kernel
theorem dX0_decimalExceptionsIn_0 : decode cX0_decimalExceptionsIn 0 = .ok (.iconst 0, 1) := by decide +kernel
theorem dX0_decimalExceptionsIn_1 : decode cX0_decimalExceptionsIn 1 = .ok (.istore_n 2, 1) := by decide +kernel
theorem dX0_decimalExceptionsIn_2 : decode cX0_decimalExceptionsIn 2 = .ok (.iload_n 1, 1) := by decide +kernel
theorem dX0_decimalExceptionsIn_3 : decode cX0_decimalExceptionsIn 3 = .ok (.istore_n 3, 1) := by decide +kernel
theorem dX0_decimalExceptionsIn_4 : decode cX0_decimalExceptionsIn 4 = .ok (.iload_n 3, 1) := by decide +kernel
theorem dX0_decimalExceptionsIn_5 : decode cX0_decimalExceptionsIn 5 = .ok (.ifCond .le 57, 3) := by decide +kernel
theorem dX0_decimalExceptionsIn_8 : decode cX0_decimalExceptionsIn 8 = .ok (.aload_n 0, 1) := by decide +kernel
theorem dX0_decimalExceptionsIn_9 : decode cX0_decimalExceptionsIn 9 = .ok (.iload_n 2, 1) := by decide +kernel
theorem dX0_decimalExceptionsIn_10 : decode cX0_decimalExceptionsIn 10 = .ok (.aload_n 0, 1) := by decide +kernel
theorem dX0_decimalExceptionsIn_11 : decode cX0_decimalExceptionsIn 11 = .ok (.getfield 39, 3) := by decide +kernel
theorem dX0_decimalExceptionsIn_14 : decode cX0_decimalExceptionsIn 14 = .ok (.iload_n 3, 1) := by decide +kernel
theorem dX0_decimalExceptionsIn_15 : decode cX0_decimalExceptionsIn 15 = .ok (.isub, 1) := by decide +kernel
theorem dX0_decimalExceptionsIn_16 : decode cX0_decimalExceptionsIn 16 = .ok (.invokevirtual 31, 3) := by decide +kernel
theorem dX0_decimalExceptionsIn_19 : decode cX0_decimalExceptionsIn 19 = .ok (.ifCond .ne 5, 3) := by decide +kernel
theorem dX0_decimalExceptionsIn_22 : decode cX0_decimalExceptionsIn 22 = .ok (.iconst 0, 1) := by decide +kernel
theorem dX0_decimalExceptionsIn_23 : decode cX0_decimalExceptionsIn 23 = .ok (.ireturn, 1) := by decide +kernel
theorem dX0_decimalExceptionsIn_24 : decode cX0_decimalExceptionsIn 24 = .ok (.aload_n 0, 1) := by decide +kernel
theorem dX0_decimalExceptionsIn_25 : decode cX0_decimalExceptionsIn 25 = .ok (.getfield 35, 3) := by decide +kernel
theorem dX0_decimalExceptionsIn_28 : decode cX0_decimalExceptionsIn 28 = .ok (.l2i, 1) := by decide +kernel
theorem dX0_decimalExceptionsIn_29 : decode cX0_decimalExceptionsIn 29 = .ok (.istore 4, 2) := by decide +kernel
theorem dX0_decimalExceptionsIn_31 : decode cX0_decimalExceptionsIn 31 = .ok (.iload 4, 2) := by decide +kernel
theorem dX0_decimalExceptionsIn_33 : decode cX0_decimalExceptionsIn 33 = .ok (.iconst 1, 1) := by decide +kernel
theorem dX0_decimalExceptionsIn_34 : decode cX0_decimalExceptionsIn 34 = .ok (.iadd, 1) := by decide +kernel
theorem dX0_decimalExceptionsIn_35 : decode cX0_decimalExceptionsIn 35 = .ok (.istore_n 2, 1) := by decide +kernel
theorem dX0_decimalExceptionsIn_36 : decode cX0_decimalExceptionsIn 36 = .ok (.aload_n 0, 1) := by decide +kernel
theorem dX0_decimalExceptionsIn_37 : decode cX0_decimalExceptionsIn 37 = .ok (.invokevirtual 77, 3) := by decide +kernel
theorem dX0_decimalExceptionsIn_40 : decode cX0_decimalExceptionsIn 40 = .ok (.ifCond .ne 5, 3) := by decide +kernel
theorem dX0_decimalExceptionsIn_43 : decode cX0_decimalExceptionsIn 43 = .ok (.iconst 0, 1) := by decide +kernel
theorem dX0_decimalExceptionsIn_44 : decode cX0_decimalExceptionsIn 44 = .ok (.ireturn, 1) := by decide +kernel
theorem dX0_decimalExceptionsIn_45 : decode cX0_decimalExceptionsIn 45 = .ok (.aload_n 0, 1) := by decide +kernel
theorem dX0_decimalExceptionsIn_46 : decode cX0_decimalExceptionsIn 46 = .ok (.getfield 9, 3) := by decide +kernel
theorem dX0_decimalExceptionsIn_49 : decode cX0_decimalExceptionsIn 49 = .ok (.iload 4, 2) := by decide +kernel
theorem dX0_decimalExceptionsIn_51 : decode cX0_decimalExceptionsIn 51 = .ok (.aload_n 0, 1) := by decide +kernel
theorem dX0_decimalExceptionsIn_52 : decode cX0_decimalExceptionsIn 52 = .ok (.getfield 35, 3) := by decide +kernel
theorem dX0_decimalExceptionsIn_55 : decode cX0_decimalExceptionsIn 55 = .ok (.lastore, 1) := by decide +kernel
theorem dX0_decimalExceptionsIn_56 : decode cX0_decimalExceptionsIn 56 = .ok (.iinc 3 (-1), 3) := by decide +kernel
theorem dX0_decimalExceptionsIn_59 : decode cX0_decimalExceptionsIn 59 = .ok (.goto (-55), 3) := by decide +kernel
theorem dX0_decimalExceptionsIn_62 : decode cX0_decimalExceptionsIn 62 = .ok (.iconst 1, 1) := by decide +kernel
theorem dX0_decimalExceptionsIn_63 : decode cX0_decimalExceptionsIn 63 = .ok (.ireturn, 1) := by decide +kernel
theorem dX0_splitIn_0 : decode cX0_splitIn 0 = .ok (.aload_n 0, 1) := by decide +kernel
theorem dX0_splitIn_1 : decode cX0_splitIn 1 = .ok (.iconst 4, 1) := by decide +kernel
theorem dX0_splitIn_2 : decode cX0_splitIn 2 = .ok (.bipush 16, 2) := by decide +kernel
theorem dX0_splitIn_4 : decode cX0_splitIn 4 = .ok (.invokevirtual 31, 3) := by decide +kernel
theorem dX0_splitIn_7 : decode cX0_splitIn 7 = .ok (.ifCond .ne 5, 3) := by decide +kernel
theorem dX0_splitIn_10 : decode cX0_splitIn 10 = .ok (.iconst 0, 1) := by decide +kernel
theorem dX0_splitIn_11 : decode cX0_splitIn 11 = .ok (.ireturn, 1) := by decide +kernel
theorem dX0_splitIn_12 : decode cX0_splitIn 12 = .ok (.aload_n 0, 1) := by decide +kernel
theorem dX0_splitIn_13 : decode cX0_splitIn 13 = .ok (.getfield 35, 3) := by decide +kernel
theorem dX0_splitIn_16 : decode cX0_splitIn 16 = .ok (.l2i, 1) := by decide +kernel
theorem dX0_splitIn_17 : decode cX0_splitIn 17 = .ok (.istore_n 1, 1) := by decide +kernel
theorem dX0_splitIn_18 : decode cX0_splitIn 18 = .ok (.aload_n 0, 1) := by decide +kernel
theorem dX0_splitIn_19 : decode cX0_splitIn 19 = .ok (.iconst 1, 1) := by decide +kernel
theorem dX0_splitIn_20 : decode cX0_splitIn 20 = .ok (.bipush 8, 2) := by decide +kernel
theorem dX0_splitIn_22 : decode cX0_splitIn 22 = .ok (.invokevirtual 31, 3) := by decide +kernel
theorem dX0_splitIn_25 : decode cX0_splitIn 25 = .ok (.ifCond .ne 5, 3) := by decide +kernel
theorem dX0_splitIn_28 : decode cX0_splitIn 28 = .ok (.iconst 0, 1) := by decide +kernel
theorem dX0_splitIn_29 : decode cX0_splitIn 29 = .ok (.ireturn, 1) := by decide +kernel
theorem dX0_splitIn_30 : decode cX0_splitIn 30 = .ok (.aload_n 0, 1) := by decide +kernel
theorem dX0_splitIn_31 : decode cX0_splitIn 31 = .ok (.getfield 35, 3) := by decide +kernel
theorem dX0_splitIn_34 : decode cX0_splitIn 34 = .ok (.l2i, 1) := by decide +kernel
theorem dX0_splitIn_35 : decode cX0_splitIn 35 = .ok (.istore_n 2, 1) := by decide +kernel
theorem dX0_splitIn_36 : decode cX0_splitIn 36 = .ok (.iconst 0, 1) := by decide +kernel
theorem dX0_splitIn_37 : decode cX0_splitIn 37 = .ok (.istore_n 3, 1) := by decide +kernel
theorem dX0_splitIn_38 : decode cX0_splitIn 38 = .ok (.iload_n 3, 1) := by decide +kernel
theorem dX0_splitIn_39 : decode cX0_splitIn 39 = .ok (.iload_n 2, 1) := by decide +kernel
theorem dX0_splitIn_40 : decode cX0_splitIn 40 = .ok (.if_icmp .ge 30, 3) := by decide +kernel
theorem dX0_splitIn_43 : decode cX0_splitIn 43 = .ok (.aload_n 0, 1) := by decide +kernel
theorem dX0_splitIn_44 : decode cX0_splitIn 44 = .ok (.iload_n 1, 1) := by decide +kernel
theorem dX0_splitIn_45 : decode cX0_splitIn 45 = .ok (.invokevirtual 99, 3) := by decide +kernel
theorem dX0_splitIn_48 : decode cX0_splitIn 48 = .ok (.ifCond .ne 5, 3) := by decide +kernel
theorem dX0_splitIn_51 : decode cX0_splitIn 51 = .ok (.iconst 0, 1) := by decide +kernel
theorem dX0_splitIn_52 : decode cX0_splitIn 52 = .ok (.ireturn, 1) := by decide +kernel
theorem dX0_splitIn_53 : decode cX0_splitIn 53 = .ok (.aload_n 0, 1) := by decide +kernel
theorem dX0_splitIn_54 : decode cX0_splitIn 54 = .ok (.getfield 15, 3) := by decide +kernel
theorem dX0_splitIn_57 : decode cX0_splitIn 57 = .ok (.iload_n 3, 1) := by decide +kernel
theorem dX0_splitIn_58 : decode cX0_splitIn 58 = .ok (.aload_n 0, 1) := by decide +kernel
theorem dX0_splitIn_59 : decode cX0_splitIn 59 = .ok (.getfield 35, 3) := by decide +kernel
theorem dX0_splitIn_62 : decode cX0_splitIn 62 = .ok (.l2i, 1) := by decide +kernel
theorem dX0_splitIn_63 : decode cX0_splitIn 63 = .ok (.iastore, 1) := by decide +kernel
theorem dX0_splitIn_64 : decode cX0_splitIn 64 = .ok (.iinc 3 1, 3) := by decide +kernel
theorem dX0_splitIn_67 : decode cX0_splitIn 67 = .ok (.goto (-29), 3) := by decide +kernel
theorem dX0_splitIn_70 : decode cX0_splitIn 70 = .ok (.aload_n 0, 1) := by decide +kernel
theorem dX0_splitIn_71 : decode cX0_splitIn 71 = .ok (.iconst 0, 1) := by decide +kernel
theorem dX0_splitIn_72 : decode cX0_splitIn 72 = .ok (.aload_n 0, 1) := by decide +kernel
theorem dX0_splitIn_73 : decode cX0_splitIn 73 = .ok (.getfield 39, 3) := by decide +kernel
theorem dX0_splitIn_76 : decode cX0_splitIn 76 = .ok (.invokevirtual 31, 3) := by decide +kernel
theorem dX0_splitIn_79 : decode cX0_splitIn 79 = .ok (.ifCond .ne 5, 3) := by decide +kernel
theorem dX0_splitIn_82 : decode cX0_splitIn 82 = .ok (.iconst 0, 1) := by decide +kernel
theorem dX0_splitIn_83 : decode cX0_splitIn 83 = .ok (.ireturn, 1) := by decide +kernel
theorem dX0_splitIn_84 : decode cX0_splitIn 84 = .ok (.aload_n 0, 1) := by decide +kernel
theorem dX0_splitIn_85 : decode cX0_splitIn 85 = .ok (.getfield 35, 3) := by decide +kernel
theorem dX0_splitIn_88 : decode cX0_splitIn 88 = .ok (.l2i, 1) := by decide +kernel
theorem dX0_splitIn_89 : decode cX0_splitIn 89 = .ok (.istore_n 3, 1) := by decide +kernel
theorem dX0_splitIn_90 : decode cX0_splitIn 90 = .ok (.aload_n 0, 1) := by decide +kernel
theorem dX0_splitIn_91 : decode cX0_splitIn 91 = .ok (.iload_n 1, 1) := by decide +kernel
theorem dX0_splitIn_92 : decode cX0_splitIn 92 = .ok (.iload_n 2, 1) := by decide +kernel
theorem dX0_splitIn_93 : decode cX0_splitIn 93 = .ok (.invokevirtual 102, 3) := by decide +kernel
theorem dX0_splitIn_96 : decode cX0_splitIn 96 = .ok (.ifCond .eq 16, 3) := by decide +kernel
theorem dX0_splitIn_99 : decode cX0_splitIn 99 = .ok (.aload_n 0, 1) := by decide +kernel
theorem dX0_splitIn_100 : decode cX0_splitIn 100 = .ok (.iload_n 1, 1) := by decide +kernel
theorem dX0_splitIn_101 : decode cX0_splitIn 101 = .ok (.iload_n 3, 1) := by decide +kernel
theorem dX0_splitIn_102 : decode cX0_splitIn 102 = .ok (.invokevirtual 105, 3) := by decide +kernel
theorem dX0_splitIn_105 : decode cX0_splitIn 105 = .ok (.ifCond .eq 7, 3) := by decide +kernel
theorem dX0_splitIn_108 : decode cX0_splitIn 108 = .ok (.iconst 1, 1) := by decide +kernel
theorem dX0_splitIn_109 : decode cX0_splitIn 109 = .ok (.goto 4, 3) := by decide +kernel
theorem dX0_splitIn_112 : decode cX0_splitIn 112 = .ok (.iconst 0, 1) := by decide +kernel
theorem dX0_splitIn_113 : decode cX0_splitIn 113 = .ok (.ireturn, 1) := by decide +kernel
theorem dX0_codesIn_0 : decode cX0_codesIn 0 = .ok (.iload_n 2, 1) := by decide +kernel
theorem dX0_codesIn_1 : decode cX0_codesIn 1 = .ok (.iconst 1, 1) := by decide +kernel
theorem dX0_codesIn_2 : decode cX0_codesIn 2 = .ok (.isub, 1) := by decide +kernel
theorem dX0_codesIn_3 : decode cX0_codesIn 3 = .ok (.i2l, 1) := by decide +kernel
theorem dX0_codesIn_4 : decode cX0_codesIn 4 = .ok (.invokestatic 108, 3) := by decide +kernel
theorem dX0_codesIn_7 : decode cX0_codesIn 7 = .ok (.istore_n 3, 1) := by decide +kernel
theorem dX0_codesIn_8 : decode cX0_codesIn 8 = .ok (.aload_n 0, 1) := by decide +kernel
theorem dX0_codesIn_9 : decode cX0_codesIn 9 = .ok (.bipush 8, 2) := by decide +kernel
theorem dX0_codesIn_11 : decode cX0_codesIn 11 = .ok (.aload_n 0, 1) := by decide +kernel
theorem dX0_codesIn_12 : decode cX0_codesIn 12 = .ok (.getfield 27, 3) := by decide +kernel
theorem dX0_codesIn_15 : decode cX0_codesIn 15 = .ok (.imul, 1) := by decide +kernel
theorem dX0_codesIn_16 : decode cX0_codesIn 16 = .ok (.putfield 71, 3) := by decide +kernel
theorem dX0_codesIn_19 : decode cX0_codesIn 19 = .ok (.iconst 0, 1) := by decide +kernel
theorem dX0_codesIn_20 : decode cX0_codesIn 20 = .ok (.istore 4, 2) := by decide +kernel
theorem dX0_codesIn_22 : decode cX0_codesIn 22 = .ok (.iload 4, 2) := by decide +kernel
theorem dX0_codesIn_24 : decode cX0_codesIn 24 = .ok (.aload_n 0, 1) := by decide +kernel
theorem dX0_codesIn_25 : decode cX0_codesIn 25 = .ok (.getfield 39, 3) := by decide +kernel
theorem dX0_codesIn_28 : decode cX0_codesIn 28 = .ok (.if_icmp .ge 84, 3) := by decide +kernel
theorem dX0_codesIn_31 : decode cX0_codesIn 31 = .ok (.aload_n 0, 1) := by decide +kernel
theorem dX0_codesIn_32 : decode cX0_codesIn 32 = .ok (.iload_n 3, 1) := by decide +kernel
theorem dX0_codesIn_33 : decode cX0_codesIn 33 = .ok (.invokevirtual 74, 3) := by decide +kernel
theorem dX0_codesIn_36 : decode cX0_codesIn 36 = .ok (.ifCond .ne 5, 3) := by decide +kernel
theorem dX0_codesIn_39 : decode cX0_codesIn 39 = .ok (.iconst 0, 1) := by decide +kernel
theorem dX0_codesIn_40 : decode cX0_codesIn 40 = .ok (.ireturn, 1) := by decide +kernel
theorem dX0_codesIn_41 : decode cX0_codesIn 41 = .ok (.aload_n 0, 1) := by decide +kernel
theorem dX0_codesIn_42 : decode cX0_codesIn 42 = .ok (.getfield 35, 3) := by decide +kernel
theorem dX0_codesIn_45 : decode cX0_codesIn 45 = .ok (.l2i, 1) := by decide +kernel
theorem dX0_codesIn_46 : decode cX0_codesIn 46 = .ok (.istore 5, 2) := by decide +kernel
theorem dX0_codesIn_48 : decode cX0_codesIn 48 = .ok (.iload 5, 2) := by decide +kernel
theorem dX0_codesIn_50 : decode cX0_codesIn 50 = .ok (.iload_n 2, 1) := by decide +kernel
theorem dX0_codesIn_51 : decode cX0_codesIn 51 = .ok (.if_icmp .lt 17, 3) := by decide +kernel
theorem dX0_codesIn_54 : decode cX0_codesIn 54 = .ok (.aload_n 0, 1) := by decide +kernel
theorem dX0_codesIn_55 : decode cX0_codesIn 55 = .ok (.aload_n 0, 1) := by decide +kernel
theorem dX0_codesIn_56 : decode cX0_codesIn 56 = .ok (.getfield 71, 3) := by decide +kernel
theorem dX0_codesIn_59 : decode cX0_codesIn 59 = .ok (.iconst 1, 1) := by decide +kernel
theorem dX0_codesIn_60 : decode cX0_codesIn 60 = .ok (.isub, 1) := by decide +kernel
theorem dX0_codesIn_61 : decode cX0_codesIn 61 = .ok (.iconst 3, 1) := by decide +kernel
theorem dX0_codesIn_62 : decode cX0_codesIn 62 = .ok (.ishr, 1) := by decide +kernel
theorem dX0_codesIn_63 : decode cX0_codesIn 63 = .ok (.putfield 27, 3) := by decide +kernel
theorem dX0_codesIn_66 : decode cX0_codesIn 66 = .ok (.iconst 0, 1) := by decide +kernel
theorem dX0_codesIn_67 : decode cX0_codesIn 67 = .ok (.ireturn, 1) := by decide +kernel
theorem dX0_codesIn_68 : decode cX0_codesIn 68 = .ok (.aload_n 0, 1) := by decide +kernel
theorem dX0_codesIn_69 : decode cX0_codesIn 69 = .ok (.bipush 64, 2) := by decide +kernel
theorem dX0_codesIn_71 : decode cX0_codesIn 71 = .ok (.iload_n 1, 1) := by decide +kernel
theorem dX0_codesIn_72 : decode cX0_codesIn 72 = .ok (.isub, 1) := by decide +kernel
theorem dX0_codesIn_73 : decode cX0_codesIn 73 = .ok (.invokevirtual 74, 3) := by decide +kernel
theorem dX0_codesIn_76 : decode cX0_codesIn 76 = .ok (.ifCond .ne 5, 3) := by decide +kernel
theorem dX0_codesIn_79 : decode cX0_codesIn 79 = .ok (.iconst 0, 1) := by decide +kernel
theorem dX0_codesIn_80 : decode cX0_codesIn 80 = .ok (.ireturn, 1) := by decide +kernel
theorem dX0_codesIn_81 : decode cX0_codesIn 81 = .ok (.aload_n 0, 1) := by decide +kernel
theorem dX0_codesIn_82 : decode cX0_codesIn 82 = .ok (.getfield 9, 3) := by decide +kernel
theorem dX0_codesIn_85 : decode cX0_codesIn 85 = .ok (.iload 4, 2) := by decide +kernel
theorem dX0_codesIn_87 : decode cX0_codesIn 87 = .ok (.aload_n 0, 1) := by decide +kernel
theorem dX0_codesIn_88 : decode cX0_codesIn 88 = .ok (.getfield 15, 3) := by decide +kernel
theorem dX0_codesIn_91 : decode cX0_codesIn 91 = .ok (.iload 5, 2) := by decide +kernel
theorem dX0_codesIn_93 : decode cX0_codesIn 93 = .ok (.iaload, 1) := by decide +kernel
theorem dX0_codesIn_94 : decode cX0_codesIn 94 = .ok (.i2l, 1) := by decide +kernel
theorem dX0_codesIn_95 : decode cX0_codesIn 95 = .ok (.bipush 64, 2) := by decide +kernel
theorem dX0_codesIn_97 : decode cX0_codesIn 97 = .ok (.iload_n 1, 1) := by decide +kernel
theorem dX0_codesIn_98 : decode cX0_codesIn 98 = .ok (.isub, 1) := by decide +kernel
theorem dX0_codesIn_99 : decode cX0_codesIn 99 = .ok (.lshl, 1) := by decide +kernel
theorem dX0_codesIn_100 : decode cX0_codesIn 100 = .ok (.aload_n 0, 1) := by decide +kernel
theorem dX0_codesIn_101 : decode cX0_codesIn 101 = .ok (.getfield 35, 3) := by decide +kernel
theorem dX0_codesIn_104 : decode cX0_codesIn 104 = .ok (.lor, 1) := by decide +kernel
theorem dX0_codesIn_105 : decode cX0_codesIn 105 = .ok (.lastore, 1) := by decide +kernel
theorem dX0_codesIn_106 : decode cX0_codesIn 106 = .ok (.iinc 4 1, 3) := by decide +kernel
theorem dX0_codesIn_109 : decode cX0_codesIn 109 = .ok (.goto (-87), 3) := by decide +kernel
theorem dX0_codesIn_112 : decode cX0_codesIn 112 = .ok (.aload_n 0, 1) := by decide +kernel
theorem dX0_codesIn_113 : decode cX0_codesIn 113 = .ok (.invokevirtual 96, 3) := by decide +kernel
theorem dX0_codesIn_116 : decode cX0_codesIn 116 = .ok (.ireturn, 1) := by decide +kernel
theorem dX0_splitExceptionsIn_0 : decode cX0_splitExceptionsIn 0 = .ok (.iconst 0, 1) := by decide +kernel
theorem dX0_splitExceptionsIn_1 : decode cX0_splitExceptionsIn 1 = .ok (.istore_n 3, 1) := by decide +kernel
theorem dX0_splitExceptionsIn_2 : decode cX0_splitExceptionsIn 2 = .ok (.iload_n 2, 1) := by decide +kernel
theorem dX0_splitExceptionsIn_3 : decode cX0_splitExceptionsIn 3 = .ok (.istore 4, 2) := by decide +kernel
theorem dX0_splitExceptionsIn_5 : decode cX0_splitExceptionsIn 5 = .ok (.iload 4, 2) := by decide +kernel
theorem dX0_splitExceptionsIn_7 : decode cX0_splitExceptionsIn 7 = .ok (.ifCond .le 81, 3) := by decide +kernel
theorem dX0_splitExceptionsIn_10 : decode cX0_splitExceptionsIn 10 = .ok (.aload_n 0, 1) := by decide +kernel
theorem dX0_splitExceptionsIn_11 : decode cX0_splitExceptionsIn 11 = .ok (.iload_n 3, 1) := by decide +kernel
theorem dX0_splitExceptionsIn_12 : decode cX0_splitExceptionsIn 12 = .ok (.aload_n 0, 1) := by decide +kernel
theorem dX0_splitExceptionsIn_13 : decode cX0_splitExceptionsIn 13 = .ok (.getfield 39, 3) := by decide +kernel
theorem dX0_splitExceptionsIn_16 : decode cX0_splitExceptionsIn 16 = .ok (.iload 4, 2) := by decide +kernel
theorem dX0_splitExceptionsIn_18 : decode cX0_splitExceptionsIn 18 = .ok (.isub, 1) := by decide +kernel
theorem dX0_splitExceptionsIn_19 : decode cX0_splitExceptionsIn 19 = .ok (.invokevirtual 31, 3) := by decide +kernel
theorem dX0_splitExceptionsIn_22 : decode cX0_splitExceptionsIn 22 = .ok (.ifCond .ne 5, 3) := by decide +kernel
theorem dX0_splitExceptionsIn_25 : decode cX0_splitExceptionsIn 25 = .ok (.iconst 0, 1) := by decide +kernel
theorem dX0_splitExceptionsIn_26 : decode cX0_splitExceptionsIn 26 = .ok (.ireturn, 1) := by decide +kernel
theorem dX0_splitExceptionsIn_27 : decode cX0_splitExceptionsIn 27 = .ok (.aload_n 0, 1) := by decide +kernel
theorem dX0_splitExceptionsIn_28 : decode cX0_splitExceptionsIn 28 = .ok (.getfield 35, 3) := by decide +kernel
theorem dX0_splitExceptionsIn_31 : decode cX0_splitExceptionsIn 31 = .ok (.l2i, 1) := by decide +kernel
theorem dX0_splitExceptionsIn_32 : decode cX0_splitExceptionsIn 32 = .ok (.istore 5, 2) := by decide +kernel
theorem dX0_splitExceptionsIn_34 : decode cX0_splitExceptionsIn 34 = .ok (.iload 5, 2) := by decide +kernel
theorem dX0_splitExceptionsIn_36 : decode cX0_splitExceptionsIn 36 = .ok (.iconst 1, 1) := by decide +kernel
theorem dX0_splitExceptionsIn_37 : decode cX0_splitExceptionsIn 37 = .ok (.iadd, 1) := by decide +kernel
theorem dX0_splitExceptionsIn_38 : decode cX0_splitExceptionsIn 38 = .ok (.istore_n 3, 1) := by decide +kernel
theorem dX0_splitExceptionsIn_39 : decode cX0_splitExceptionsIn 39 = .ok (.aload_n 0, 1) := by decide +kernel
theorem dX0_splitExceptionsIn_40 : decode cX0_splitExceptionsIn 40 = .ok (.iload_n 1, 1) := by decide +kernel
theorem dX0_splitExceptionsIn_41 : decode cX0_splitExceptionsIn 41 = .ok (.invokevirtual 99, 3) := by decide +kernel
theorem dX0_splitExceptionsIn_44 : decode cX0_splitExceptionsIn 44 = .ok (.ifCond .ne 5, 3) := by decide +kernel
theorem dX0_splitExceptionsIn_47 : decode cX0_splitExceptionsIn 47 = .ok (.iconst 0, 1) := by decide +kernel
theorem dX0_splitExceptionsIn_48 : decode cX0_splitExceptionsIn 48 = .ok (.ireturn, 1) := by decide +kernel
theorem dX0_splitExceptionsIn_49 : decode cX0_splitExceptionsIn 49 = .ok (.aload_n 0, 1) := by decide +kernel
theorem dX0_splitExceptionsIn_50 : decode cX0_splitExceptionsIn 50 = .ok (.getfield 9, 3) := by decide +kernel
theorem dX0_splitExceptionsIn_53 : decode cX0_splitExceptionsIn 53 = .ok (.iload 5, 2) := by decide +kernel
theorem dX0_splitExceptionsIn_55 : decode cX0_splitExceptionsIn 55 = .ok (.aload_n 0, 1) := by decide +kernel
theorem dX0_splitExceptionsIn_56 : decode cX0_splitExceptionsIn 56 = .ok (.getfield 35, 3) := by decide +kernel
theorem dX0_splitExceptionsIn_59 : decode cX0_splitExceptionsIn 59 = .ok (.bipush 64, 2) := by decide +kernel
theorem dX0_splitExceptionsIn_61 : decode cX0_splitExceptionsIn 61 = .ok (.iload_n 1, 1) := by decide +kernel
theorem dX0_splitExceptionsIn_62 : decode cX0_splitExceptionsIn 62 = .ok (.isub, 1) := by decide +kernel
theorem dX0_splitExceptionsIn_63 : decode cX0_splitExceptionsIn 63 = .ok (.lshl, 1) := by decide +kernel
theorem dX0_splitExceptionsIn_64 : decode cX0_splitExceptionsIn 64 = .ok (.aload_n 0, 1) := by decide +kernel
theorem dX0_splitExceptionsIn_65 : decode cX0_splitExceptionsIn 65 = .ok (.getfield 9, 3) := by decide +kernel
theorem dX0_splitExceptionsIn_68 : decode cX0_splitExceptionsIn 68 = .ok (.iload 5, 2) := by decide +kernel
theorem dX0_splitExceptionsIn_70 : decode cX0_splitExceptionsIn 70 = .ok (.laload, 1) := by decide +kernel
theorem dX0_splitExceptionsIn_71 : decode cX0_splitExceptionsIn 71 = .ok (.lconst 1, 1) := by decide +kernel
theorem dX0_splitExceptionsIn_72 : decode cX0_splitExceptionsIn 72 = .ok (.bipush 64, 2) := by decide +kernel
theorem dX0_splitExceptionsIn_74 : decode cX0_splitExceptionsIn 74 = .ok (.iload_n 1, 1) := by decide +kernel
theorem dX0_splitExceptionsIn_75 : decode cX0_splitExceptionsIn 75 = .ok (.isub, 1) := by decide +kernel
theorem dX0_splitExceptionsIn_76 : decode cX0_splitExceptionsIn 76 = .ok (.lshl, 1) := by decide +kernel
theorem dX0_splitExceptionsIn_77 : decode cX0_splitExceptionsIn 77 = .ok (.lconst 1, 1) := by decide +kernel
theorem dX0_splitExceptionsIn_78 : decode cX0_splitExceptionsIn 78 = .ok (.lsub, 1) := by decide +kernel
theorem dX0_splitExceptionsIn_79 : decode cX0_splitExceptionsIn 79 = .ok (.land, 1) := by decide +kernel
theorem dX0_splitExceptionsIn_80 : decode cX0_splitExceptionsIn 80 = .ok (.lor, 1) := by decide +kernel
theorem dX0_splitExceptionsIn_81 : decode cX0_splitExceptionsIn 81 = .ok (.lastore, 1) := by decide +kernel
theorem dX0_splitExceptionsIn_82 : decode cX0_splitExceptionsIn 82 = .ok (.iinc 4 (-1), 3) := by decide +kernel
theorem dX0_splitExceptionsIn_85 : decode cX0_splitExceptionsIn 85 = .ok (.goto (-80), 3) := by decide +kernel
theorem dX0_splitExceptionsIn_88 : decode cX0_splitExceptionsIn 88 = .ok (.iconst 1, 1) := by decide +kernel
theorem dX0_splitExceptionsIn_89 : decode cX0_splitExceptionsIn 89 = .ok (.ireturn, 1) := by decide +kernel
theorem dX1_init_0 : decode cX1_init 0 = .ok (.aload_n 0, 1) := by decide +kernel
theorem dX1_init_1 : decode cX1_init 1 = .ok (.invokespecial 3, 3) := by decide +kernel
theorem dX1_init_4 : decode cX1_init 4 = .ok (.aload_n 0, 1) := by decide +kernel
theorem dX1_init_5 : decode cX1_init 5 = .ok (.aload_n 1, 1) := by decide +kernel
theorem dX1_init_6 : decode cX1_init 6 = .ok (.putfield 9, 3) := by decide +kernel
theorem dX1_init_9 : decode cX1_init 9 = .ok (.return_, 1) := by decide +kernel
theorem dX1_writeOut_0 : decode cX1_writeOut 0 = .ok (.aload_n 0, 1) := by decide +kernel
theorem dX1_writeOut_1 : decode cX1_writeOut 1 = .ok (.getfield 9, 3) := by decide +kernel
theorem dX1_writeOut_4 : decode cX1_writeOut 4 = .ok (.iconst 0, 1) := by decide +kernel
theorem dX1_writeOut_5 : decode cX1_writeOut 5 = .ok (.putfield 15, 3) := by decide +kernel
theorem dX1_writeOut_8 : decode cX1_writeOut 8 = .ok (.aload_n 1, 1) := by decide +kernel
theorem dX1_writeOut_9 : decode cX1_writeOut 9 = .ok (.iload_n 2, 1) := by decide +kernel
theorem dX1_writeOut_10 : decode cX1_writeOut 10 = .ok (.invokevirtual 21, 3) := by decide +kernel
theorem dX1_writeOut_13 : decode cX1_writeOut 13 = .ok (.aload_n 0, 1) := by decide +kernel
theorem dX1_writeOut_14 : decode cX1_writeOut 14 = .ok (.getfield 9, 3) := by decide +kernel
theorem dX1_writeOut_17 : decode cX1_writeOut 17 = .ok (.aload_n 1, 1) := by decide +kernel
theorem dX1_writeOut_18 : decode cX1_writeOut 18 = .ok (.getfield 27, 3) := by decide +kernel
theorem dX1_writeOut_21 : decode cX1_writeOut 21 = .ok (.invokevirtual 30, 3) := by decide +kernel
theorem dX1_writeOut_24 : decode cX1_writeOut 24 = .ok (.aload_n 0, 1) := by decide +kernel
theorem dX1_writeOut_25 : decode cX1_writeOut 25 = .ok (.getfield 9, 3) := by decide +kernel
theorem dX1_writeOut_28 : decode cX1_writeOut 28 = .ok (.aload_n 1, 1) := by decide +kernel
theorem dX1_writeOut_29 : decode cX1_writeOut 29 = .ok (.iload_n 2, 1) := by decide +kernel
theorem dX1_writeOut_30 : decode cX1_writeOut 30 = .ok (.invokevirtual 33, 3) := by decide +kernel
theorem dX1_writeOut_33 : decode cX1_writeOut 33 = .ok (.invokevirtual 30, 3) := by decide +kernel
theorem dX1_writeOut_36 : decode cX1_writeOut 36 = .ok (.aload_n 1, 1) := by decide +kernel
theorem dX1_writeOut_37 : decode cX1_writeOut 37 = .ok (.getfield 27, 3) := by decide +kernel
theorem dX1_writeOut_40 : decode cX1_writeOut 40 = .ok (.ifCond .ne 12, 3) := by decide +kernel
theorem dX1_writeOut_43 : decode cX1_writeOut 43 = .ok (.aload_n 0, 1) := by decide +kernel
theorem dX1_writeOut_44 : decode cX1_writeOut 44 = .ok (.aload_n 1, 1) := by decide +kernel
theorem dX1_writeOut_45 : decode cX1_writeOut 45 = .ok (.iload_n 2, 1) := by decide +kernel
theorem dX1_writeOut_46 : decode cX1_writeOut 46 = .ok (.invokevirtual 37, 3) := by decide +kernel
theorem dX1_writeOut_49 : decode cX1_writeOut 49 = .ok (.goto 26, 3) := by decide +kernel
theorem dX1_writeOut_52 : decode cX1_writeOut 52 = .ok (.aload_n 1, 1) := by decide +kernel
theorem dX1_writeOut_53 : decode cX1_writeOut 53 = .ok (.getfield 27, 3) := by decide +kernel
theorem dX1_writeOut_56 : decode cX1_writeOut 56 = .ok (.iconst 1, 1) := by decide +kernel
theorem dX1_writeOut_57 : decode cX1_writeOut 57 = .ok (.if_icmp .ne 12, 3) := by decide +kernel
theorem dX1_writeOut_60 : decode cX1_writeOut 60 = .ok (.aload_n 0, 1) := by decide +kernel
theorem dX1_writeOut_61 : decode cX1_writeOut 61 = .ok (.aload_n 1, 1) := by decide +kernel
theorem dX1_writeOut_62 : decode cX1_writeOut 62 = .ok (.iload_n 2, 1) := by decide +kernel
theorem dX1_writeOut_63 : decode cX1_writeOut 63 = .ok (.invokevirtual 41, 3) := by decide +kernel
theorem dX1_writeOut_66 : decode cX1_writeOut 66 = .ok (.goto 9, 3) := by decide +kernel
theorem dX1_writeOut_69 : decode cX1_writeOut 69 = .ok (.aload_n 0, 1) := by decide +kernel
theorem dX1_writeOut_70 : decode cX1_writeOut 70 = .ok (.aload_n 1, 1) := by decide +kernel
theorem dX1_writeOut_71 : decode cX1_writeOut 71 = .ok (.iload_n 2, 1) := by decide +kernel
theorem dX1_writeOut_72 : decode cX1_writeOut 72 = .ok (.invokevirtual 44, 3) := by decide +kernel
theorem dX1_writeOut_75 : decode cX1_writeOut 75 = .ok (.aload_n 0, 1) := by decide +kernel
theorem dX1_writeOut_76 : decode cX1_writeOut 76 = .ok (.getfield 9, 3) := by decide +kernel
theorem dX1_writeOut_79 : decode cX1_writeOut 79 = .ok (.aload_n 0, 1) := by decide +kernel
theorem dX1_writeOut_80 : decode cX1_writeOut 80 = .ok (.getfield 9, 3) := by decide +kernel
theorem dX1_writeOut_83 : decode cX1_writeOut 83 = .ok (.aload_n 0, 1) := by decide +kernel
theorem dX1_writeOut_84 : decode cX1_writeOut 84 = .ok (.getfield 9, 3) := by decide +kernel
theorem dX1_writeOut_87 : decode cX1_writeOut 87 = .ok (.getfield 15, 3) := by decide +kernel
theorem dX1_writeOut_90 : decode cX1_writeOut 90 = .ok (.invokevirtual 47, 3) := by decide +kernel
theorem dX1_writeOut_93 : decode cX1_writeOut 93 = .ok (.invokevirtual 30, 3) := by decide +kernel
theorem dX1_writeOut_96 : decode cX1_writeOut 96 = .ok (.return_, 1) := by decide +kernel
theorem dX1_bitsOut_0 : decode cX1_bitsOut 0 = .ok (.iload_n 3, 1) := by decide +kernel
theorem dX1_bitsOut_1 : decode cX1_bitsOut 1 = .ok (.iconst 1, 1) := by decide +kernel
theorem dX1_bitsOut_2 : decode cX1_bitsOut 2 = .ok (.isub, 1) := by decide +kernel
theorem dX1_bitsOut_3 : decode cX1_bitsOut 3 = .ok (.istore 4, 2) := by decide +kernel
theorem dX1_bitsOut_5 : decode cX1_bitsOut 5 = .ok (.iload 4, 2) := by decide +kernel
theorem dX1_bitsOut_7 : decode cX1_bitsOut 7 = .ok (.ifCond .lt 67, 3) := by decide +kernel
theorem dX1_bitsOut_10 : decode cX1_bitsOut 10 = .ok (.aload_n 0, 1) := by decide +kernel
theorem dX1_bitsOut_11 : decode cX1_bitsOut 11 = .ok (.aload_n 0, 1) := by decide +kernel
theorem dX1_bitsOut_12 : decode cX1_bitsOut 12 = .ok (.getfield 50, 3) := by decide +kernel
theorem dX1_bitsOut_15 : decode cX1_bitsOut 15 = .ok (.iconst 1, 1) := by decide +kernel
theorem dX1_bitsOut_16 : decode cX1_bitsOut 16 = .ok (.ishl, 1) := by decide +kernel
theorem dX1_bitsOut_17 : decode cX1_bitsOut 17 = .ok (.lload_n 1, 1) := by decide +kernel
theorem dX1_bitsOut_18 : decode cX1_bitsOut 18 = .ok (.iload 4, 2) := by decide +kernel
theorem dX1_bitsOut_20 : decode cX1_bitsOut 20 = .ok (.lushr, 1) := by decide +kernel
theorem dX1_bitsOut_21 : decode cX1_bitsOut 21 = .ok (.lconst 1, 1) := by decide +kernel
theorem dX1_bitsOut_22 : decode cX1_bitsOut 22 = .ok (.land, 1) := by decide +kernel
theorem dX1_bitsOut_23 : decode cX1_bitsOut 23 = .ok (.l2i, 1) := by decide +kernel
theorem dX1_bitsOut_24 : decode cX1_bitsOut 24 = .ok (.ior, 1) := by decide +kernel
theorem dX1_bitsOut_25 : decode cX1_bitsOut 25 = .ok (.putfield 50, 3) := by decide +kernel
theorem dX1_bitsOut_28 : decode cX1_bitsOut 28 = .ok (.aload_n 0, 1) := by decide +kernel
theorem dX1_bitsOut_29 : decode cX1_bitsOut 29 = .ok (.dup, 1) := by decide +kernel
theorem dX1_bitsOut_30 : decode cX1_bitsOut 30 = .ok (.getfield 53, 3) := by decide +kernel
theorem dX1_bitsOut_33 : decode cX1_bitsOut 33 = .ok (.iconst 1, 1) := by decide +kernel
theorem dX1_bitsOut_34 : decode cX1_bitsOut 34 = .ok (.iadd, 1) := by decide +kernel
theorem dX1_bitsOut_35 : decode cX1_bitsOut 35 = .ok (.putfield 53, 3) := by decide +kernel
theorem dX1_bitsOut_38 : decode cX1_bitsOut 38 = .ok (.aload_n 0, 1) := by decide +kernel
theorem dX1_bitsOut_39 : decode cX1_bitsOut 39 = .ok (.getfield 53, 3) := by decide +kernel
theorem dX1_bitsOut_42 : decode cX1_bitsOut 42 = .ok (.bipush 8, 2) := by decide +kernel
theorem dX1_bitsOut_44 : decode cX1_bitsOut 44 = .ok (.if_icmp .ne 24, 3) := by decide +kernel
theorem dX1_bitsOut_47 : decode cX1_bitsOut 47 = .ok (.aload_n 0, 1) := by decide +kernel
theorem dX1_bitsOut_48 : decode cX1_bitsOut 48 = .ok (.getfield 9, 3) := by decide +kernel
theorem dX1_bitsOut_51 : decode cX1_bitsOut 51 = .ok (.aload_n 0, 1) := by decide +kernel
theorem dX1_bitsOut_52 : decode cX1_bitsOut 52 = .ok (.getfield 50, 3) := by decide +kernel
theorem dX1_bitsOut_55 : decode cX1_bitsOut 55 = .ok (.invokevirtual 30, 3) := by decide +kernel
theorem dX1_bitsOut_58 : decode cX1_bitsOut 58 = .ok (.aload_n 0, 1) := by decide +kernel
theorem dX1_bitsOut_59 : decode cX1_bitsOut 59 = .ok (.iconst 0, 1) := by decide +kernel
theorem dX1_bitsOut_60 : decode cX1_bitsOut 60 = .ok (.putfield 50, 3) := by decide +kernel
theorem dX1_bitsOut_63 : decode cX1_bitsOut 63 = .ok (.aload_n 0, 1) := by decide +kernel
theorem dX1_bitsOut_64 : decode cX1_bitsOut 64 = .ok (.iconst 0, 1) := by decide +kernel
theorem dX1_bitsOut_65 : decode cX1_bitsOut 65 = .ok (.putfield 53, 3) := by decide +kernel
theorem dX1_bitsOut_68 : decode cX1_bitsOut 68 = .ok (.iinc 4 (-1), 3) := by decide +kernel
theorem dX1_bitsOut_71 : decode cX1_bitsOut 71 = .ok (.goto (-66), 3) := by decide +kernel
theorem dX1_bitsOut_74 : decode cX1_bitsOut 74 = .ok (.return_, 1) := by decide +kernel
theorem dX1_fillingOut_0 : decode cX1_fillingOut 0 = .ok (.aload_n 0, 1) := by decide +kernel
theorem dX1_fillingOut_1 : decode cX1_fillingOut 1 = .ok (.getfield 53, 3) := by decide +kernel
theorem dX1_fillingOut_4 : decode cX1_fillingOut 4 = .ok (.ifCond .le 15, 3) := by decide +kernel
theorem dX1_fillingOut_7 : decode cX1_fillingOut 7 = .ok (.aload_n 0, 1) := by decide +kernel
theorem dX1_fillingOut_8 : decode cX1_fillingOut 8 = .ok (.lconst 0, 1) := by decide +kernel
theorem dX1_fillingOut_9 : decode cX1_fillingOut 9 = .ok (.bipush 8, 2) := by decide +kernel
theorem dX1_fillingOut_11 : decode cX1_fillingOut 11 = .ok (.aload_n 0, 1) := by decide +kernel
theorem dX1_fillingOut_12 : decode cX1_fillingOut 12 = .ok (.getfield 53, 3) := by decide +kernel
theorem dX1_fillingOut_15 : decode cX1_fillingOut 15 = .ok (.isub, 1) := by decide +kernel
theorem dX1_fillingOut_16 : decode cX1_fillingOut 16 = .ok (.invokevirtual 56, 3) := by decide +kernel
theorem dX1_fillingOut_19 : decode cX1_fillingOut 19 = .ok (.return_, 1) := by decide +kernel
theorem dX1_rawOut_0 : decode cX1_rawOut 0 = .ok (.iconst 0, 1) := by decide +kernel
theorem dX1_rawOut_1 : decode cX1_rawOut 1 = .ok (.istore_n 3, 1) := by decide +kernel
theorem dX1_rawOut_2 : decode cX1_rawOut 2 = .ok (.iload_n 3, 1) := by decide +kernel
theorem dX1_rawOut_3 : decode cX1_rawOut 3 = .ok (.aload_n 1, 1) := by decide +kernel
theorem dX1_rawOut_4 : decode cX1_rawOut 4 = .ok (.iload_n 2, 1) := by decide +kernel
theorem dX1_rawOut_5 : decode cX1_rawOut 5 = .ok (.invokevirtual 33, 3) := by decide +kernel
theorem dX1_rawOut_8 : decode cX1_rawOut 8 = .ok (.if_icmp .ge 27, 3) := by decide +kernel
theorem dX1_rawOut_11 : decode cX1_rawOut 11 = .ok (.aload_n 0, 1) := by decide +kernel
theorem dX1_rawOut_12 : decode cX1_rawOut 12 = .ok (.getfield 9, 3) := by decide +kernel
theorem dX1_rawOut_15 : decode cX1_rawOut 15 = .ok (.aload_n 1, 1) := by decide +kernel
theorem dX1_rawOut_16 : decode cX1_rawOut 16 = .ok (.aload_n 1, 1) := by decide +kernel
theorem dX1_rawOut_17 : decode cX1_rawOut 17 = .ok (.iload_n 2, 1) := by decide +kernel
theorem dX1_rawOut_18 : decode cX1_rawOut 18 = .ok (.invokevirtual 60, 3) := by decide +kernel
theorem dX1_rawOut_21 : decode cX1_rawOut 21 = .ok (.iload_n 3, 1) := by decide +kernel
theorem dX1_rawOut_22 : decode cX1_rawOut 22 = .ok (.iadd, 1) := by decide +kernel
theorem dX1_rawOut_23 : decode cX1_rawOut 23 = .ok (.invokevirtual 63, 3) := by decide +kernel
theorem dX1_rawOut_26 : decode cX1_rawOut 26 = .ok (.invokevirtual 67, 3) := by decide +kernel
theorem dX1_rawOut_29 : decode cX1_rawOut 29 = .ok (.iinc 3 1, 3) := by decide +kernel
theorem dX1_rawOut_32 : decode cX1_rawOut 32 = .ok (.goto (-30), 3) := by decide +kernel
theorem dX1_rawOut_35 : decode cX1_rawOut 35 = .ok (.return_, 1) := by decide +kernel
theorem dX1_decimalOut_0 : decode cX1_decimalOut 0 = .ok (.aload_n 1, 1) := by decide +kernel
theorem dX1_decimalOut_1 : decode cX1_decimalOut 1 = .ok (.getfield 71, 3) := by decide +kernel
theorem dX1_decimalOut_4 : decode cX1_decimalOut 4 = .ok (.aload_n 1, 1) := by decide +kernel
theorem dX1_decimalOut_5 : decode cX1_decimalOut 5 = .ok (.getfield 75, 3) := by decide +kernel
theorem dX1_decimalOut_8 : decode cX1_decimalOut 8 = .ok (.invokevirtual 78, 3) := by decide +kernel
theorem dX1_decimalOut_11 : decode cX1_decimalOut 11 = .ok (.istore_n 3, 1) := by decide +kernel
theorem dX1_decimalOut_12 : decode cX1_decimalOut 12 = .ok (.aload_n 1, 1) := by decide +kernel
theorem dX1_decimalOut_13 : decode cX1_decimalOut 13 = .ok (.iload_n 2, 1) := by decide +kernel
theorem dX1_decimalOut_14 : decode cX1_decimalOut 14 = .ok (.invokevirtual 83, 3) := by decide +kernel
theorem dX1_decimalOut_17 : decode cX1_decimalOut 17 = .ok (.istore 4, 2) := by decide +kernel
theorem dX1_decimalOut_19 : decode cX1_decimalOut 19 = .ok (.aload_n 0, 1) := by decide +kernel
theorem dX1_decimalOut_20 : decode cX1_decimalOut 20 = .ok (.getfield 9, 3) := by decide +kernel
theorem dX1_decimalOut_23 : decode cX1_decimalOut 23 = .ok (.iload_n 3, 1) := by decide +kernel
theorem dX1_decimalOut_24 : decode cX1_decimalOut 24 = .ok (.iconst 4, 1) := by decide +kernel
theorem dX1_decimalOut_25 : decode cX1_decimalOut 25 = .ok (.ishr, 1) := by decide +kernel
theorem dX1_decimalOut_26 : decode cX1_decimalOut 26 = .ok (.invokevirtual 30, 3) := by decide +kernel
theorem dX1_decimalOut_29 : decode cX1_decimalOut 29 = .ok (.aload_n 0, 1) := by decide +kernel
theorem dX1_decimalOut_30 : decode cX1_decimalOut 30 = .ok (.getfield 9, 3) := by decide +kernel
theorem dX1_decimalOut_33 : decode cX1_decimalOut 33 = .ok (.iload_n 3, 1) := by decide +kernel
theorem dX1_decimalOut_34 : decode cX1_decimalOut 34 = .ok (.bipush 15, 2) := by decide +kernel
theorem dX1_decimalOut_36 : decode cX1_decimalOut 36 = .ok (.iand, 1) := by decide +kernel
theorem dX1_decimalOut_37 : decode cX1_decimalOut 37 = .ok (.invokevirtual 30, 3) := by decide +kernel
theorem dX1_decimalOut_40 : decode cX1_decimalOut 40 = .ok (.aload_n 0, 1) := by decide +kernel
theorem dX1_decimalOut_41 : decode cX1_decimalOut 41 = .ok (.getfield 9, 3) := by decide +kernel
theorem dX1_decimalOut_44 : decode cX1_decimalOut 44 = .ok (.aload_n 1, 1) := by decide +kernel
theorem dX1_decimalOut_45 : decode cX1_decimalOut 45 = .ok (.getfield 86, 3) := by decide +kernel
theorem dX1_decimalOut_48 : decode cX1_decimalOut 48 = .ok (.invokestatic 89, 3) := by decide +kernel
theorem dX1_decimalOut_51 : decode cX1_decimalOut 51 = .ok (.invokevirtual 30, 3) := by decide +kernel
theorem dX1_decimalOut_54 : decode cX1_decimalOut 54 = .ok (.aload_n 0, 1) := by decide +kernel
theorem dX1_decimalOut_55 : decode cX1_decimalOut 55 = .ok (.getfield 9, 3) := by decide +kernel
theorem dX1_decimalOut_58 : decode cX1_decimalOut 58 = .ok (.aload_n 1, 1) := by decide +kernel
theorem dX1_decimalOut_59 : decode cX1_decimalOut 59 = .ok (.getfield 94, 3) := by decide +kernel
theorem dX1_decimalOut_62 : decode cX1_decimalOut 62 = .ok (.invokevirtual 67, 3) := by decide +kernel
theorem dX1_decimalOut_65 : decode cX1_decimalOut 65 = .ok (.aload_n 0, 1) := by decide +kernel
theorem dX1_decimalOut_66 : decode cX1_decimalOut 66 = .ok (.getfield 9, 3) := by decide +kernel
theorem dX1_decimalOut_69 : decode cX1_decimalOut 69 = .ok (.iload 4, 2) := by decide +kernel
theorem dX1_decimalOut_71 : decode cX1_decimalOut 71 = .ok (.invokevirtual 30, 3) := by decide +kernel
theorem dX1_decimalOut_74 : decode cX1_decimalOut 74 = .ok (.iconst 0, 1) := by decide +kernel
theorem dX1_decimalOut_75 : decode cX1_decimalOut 75 = .ok (.istore 5, 2) := by decide +kernel
theorem dX1_decimalOut_77 : decode cX1_decimalOut 77 = .ok (.iload 5, 2) := by decide +kernel
theorem dX1_decimalOut_79 : decode cX1_decimalOut 79 = .ok (.aload_n 1, 1) := by decide +kernel
theorem dX1_decimalOut_80 : decode cX1_decimalOut 80 = .ok (.iload_n 2, 1) := by decide +kernel
theorem dX1_decimalOut_81 : decode cX1_decimalOut 81 = .ok (.invokevirtual 33, 3) := by decide +kernel
theorem dX1_decimalOut_84 : decode cX1_decimalOut 84 = .ok (.if_icmp .ge 53, 3) := by decide +kernel
theorem dX1_decimalOut_87 : decode cX1_decimalOut 87 = .ok (.aload_n 1, 1) := by decide +kernel
theorem dX1_decimalOut_88 : decode cX1_decimalOut 88 = .ok (.aload_n 1, 1) := by decide +kernel
theorem dX1_decimalOut_89 : decode cX1_decimalOut 89 = .ok (.iload_n 2, 1) := by decide +kernel
theorem dX1_decimalOut_90 : decode cX1_decimalOut 90 = .ok (.invokevirtual 60, 3) := by decide +kernel
theorem dX1_decimalOut_93 : decode cX1_decimalOut 93 = .ok (.iload 5, 2) := by decide +kernel
theorem dX1_decimalOut_95 : decode cX1_decimalOut 95 = .ok (.iadd, 1) := by decide +kernel
theorem dX1_decimalOut_96 : decode cX1_decimalOut 96 = .ok (.aload_n 1, 1) := by decide +kernel
theorem dX1_decimalOut_97 : decode cX1_decimalOut 97 = .ok (.getfield 75, 3) := by decide +kernel
theorem dX1_decimalOut_100 : decode cX1_decimalOut 100 = .ok (.invokevirtual 98, 3) := by decide +kernel
theorem dX1_decimalOut_103 : decode cX1_decimalOut 103 = .ok (.lstore 6, 2) := by decide +kernel
theorem dX1_decimalOut_105 : decode cX1_decimalOut 105 = .ok (.aload_n 0, 1) := by decide +kernel
theorem dX1_decimalOut_106 : decode cX1_decimalOut 106 = .ok (.lload 6, 2) := by decide +kernel
theorem dX1_decimalOut_108 : decode cX1_decimalOut 108 = .ok (.ldc2_w 102, 3) := by decide +kernel
theorem dX1_decimalOut_111 : decode cX1_decimalOut 111 = .ok (.lcmp, 1) := by decide +kernel
theorem dX1_decimalOut_112 : decode cX1_decimalOut 112 = .ok (.ifCond .ne 7, 3) := by decide +kernel
theorem dX1_decimalOut_115 : decode cX1_decimalOut 115 = .ok (.lconst 0, 1) := by decide +kernel
theorem dX1_decimalOut_116 : decode cX1_decimalOut 116 = .ok (.goto 10, 3) := by decide +kernel
theorem dX1_decimalOut_119 : decode cX1_decimalOut 119 = .ok (.lload 6, 2) := by decide +kernel
theorem dX1_decimalOut_121 : decode cX1_decimalOut 121 = .ok (.aload_n 1, 1) := by decide +kernel
theorem dX1_decimalOut_122 : decode cX1_decimalOut 122 = .ok (.getfield 94, 3) := by decide +kernel
theorem dX1_decimalOut_125 : decode cX1_decimalOut 125 = .ok (.lsub, 1) := by decide +kernel
theorem dX1_decimalOut_126 : decode cX1_decimalOut 126 = .ok (.iload 4, 2) := by decide +kernel
theorem dX1_decimalOut_128 : decode cX1_decimalOut 128 = .ok (.invokevirtual 56, 3) := by decide +kernel
theorem dX1_decimalOut_131 : decode cX1_decimalOut 131 = .ok (.iinc 5 1, 3) := by decide +kernel
theorem dX1_decimalOut_134 : decode cX1_decimalOut 134 = .ok (.goto (-57), 3) := by decide +kernel
theorem dX1_decimalOut_137 : decode cX1_decimalOut 137 = .ok (.aload_n 0, 1) := by decide +kernel
theorem dX1_decimalOut_138 : decode cX1_decimalOut 138 = .ok (.invokevirtual 104, 3) := by decide +kernel
theorem dX1_decimalOut_141 : decode cX1_decimalOut 141 = .ok (.iconst 0, 1) := by decide +kernel
theorem dX1_decimalOut_142 : decode cX1_decimalOut 142 = .ok (.istore 5, 2) := by decide +kernel
theorem dX1_decimalOut_144 : decode cX1_decimalOut 144 = .ok (.iload 5, 2) := by decide +kernel
theorem dX1_decimalOut_146 : decode cX1_decimalOut 146 = .ok (.aload_n 1, 1) := by decide +kernel
theorem dX1_decimalOut_147 : decode cX1_decimalOut 147 = .ok (.iload_n 2, 1) := by decide +kernel
theorem dX1_decimalOut_148 : decode cX1_decimalOut 148 = .ok (.invokevirtual 33, 3) := by decide +kernel
theorem dX1_decimalOut_151 : decode cX1_decimalOut 151 = .ok (.if_icmp .ge 50, 3) := by decide +kernel
theorem dX1_decimalOut_154 : decode cX1_decimalOut 154 = .ok (.aload_n 1, 1) := by decide +kernel
theorem dX1_decimalOut_155 : decode cX1_decimalOut 155 = .ok (.getfield 86, 3) := by decide +kernel
theorem dX1_decimalOut_158 : decode cX1_decimalOut 158 = .ok (.iload 5, 2) := by decide +kernel
theorem dX1_decimalOut_160 : decode cX1_decimalOut 160 = .ok (.ishr, 1) := by decide +kernel
theorem dX1_decimalOut_161 : decode cX1_decimalOut 161 = .ok (.iconst 1, 1) := by decide +kernel
theorem dX1_decimalOut_162 : decode cX1_decimalOut 162 = .ok (.iand, 1) := by decide +kernel
theorem dX1_decimalOut_163 : decode cX1_decimalOut 163 = .ok (.iconst 1, 1) := by decide +kernel
theorem dX1_decimalOut_164 : decode cX1_decimalOut 164 = .ok (.if_icmp .ne 31, 3) := by decide +kernel
theorem dX1_decimalOut_167 : decode cX1_decimalOut 167 = .ok (.aload_n 0, 1) := by decide +kernel
theorem dX1_decimalOut_168 : decode cX1_decimalOut 168 = .ok (.getfield 9, 3) := by decide +kernel
theorem dX1_decimalOut_171 : decode cX1_decimalOut 171 = .ok (.iload 5, 2) := by decide +kernel
theorem dX1_decimalOut_173 : decode cX1_decimalOut 173 = .ok (.invokevirtual 30, 3) := by decide +kernel
theorem dX1_decimalOut_176 : decode cX1_decimalOut 176 = .ok (.aload_n 0, 1) := by decide +kernel
theorem dX1_decimalOut_177 : decode cX1_decimalOut 177 = .ok (.getfield 9, 3) := by decide +kernel
theorem dX1_decimalOut_180 : decode cX1_decimalOut 180 = .ok (.aload_n 1, 1) := by decide +kernel
theorem dX1_decimalOut_181 : decode cX1_decimalOut 181 = .ok (.aload_n 1, 1) := by decide +kernel
theorem dX1_decimalOut_182 : decode cX1_decimalOut 182 = .ok (.iload_n 2, 1) := by decide +kernel
theorem dX1_decimalOut_183 : decode cX1_decimalOut 183 = .ok (.invokevirtual 60, 3) := by decide +kernel
theorem dX1_decimalOut_186 : decode cX1_decimalOut 186 = .ok (.iload 5, 2) := by decide +kernel
theorem dX1_decimalOut_188 : decode cX1_decimalOut 188 = .ok (.iadd, 1) := by decide +kernel
theorem dX1_decimalOut_189 : decode cX1_decimalOut 189 = .ok (.invokevirtual 63, 3) := by decide +kernel
theorem dX1_decimalOut_192 : decode cX1_decimalOut 192 = .ok (.invokevirtual 67, 3) := by decide +kernel
theorem dX1_decimalOut_195 : decode cX1_decimalOut 195 = .ok (.iinc 5 1, 3) := by decide +kernel
theorem dX1_decimalOut_198 : decode cX1_decimalOut 198 = .ok (.goto (-54), 3) := by decide +kernel
theorem dX1_decimalOut_201 : decode cX1_decimalOut 201 = .ok (.return_, 1) := by decide +kernel
theorem dX1_splitOut_0 : decode cX1_splitOut 0 = .ok (.aload_n 1, 1) := by decide +kernel
theorem dX1_splitOut_1 : decode cX1_splitOut 1 = .ok (.getfield 107, 3) := by decide +kernel
theorem dX1_splitOut_4 : decode cX1_splitOut 4 = .ok (.iconst 3, 1) := by decide +kernel
theorem dX1_splitOut_5 : decode cX1_splitOut 5 = .ok (.iaload, 1) := by decide +kernel
theorem dX1_splitOut_6 : decode cX1_splitOut 6 = .ok (.istore_n 3, 1) := by decide +kernel
theorem dX1_splitOut_7 : decode cX1_splitOut 7 = .ok (.aload_n 1, 1) := by decide +kernel
theorem dX1_splitOut_8 : decode cX1_splitOut 8 = .ok (.getfield 111, 3) := by decide +kernel
theorem dX1_splitOut_11 : decode cX1_splitOut 11 = .ok (.astore 4, 2) := by decide +kernel
theorem dX1_splitOut_13 : decode cX1_splitOut 13 = .ok (.aload_n 0, 1) := by decide +kernel
theorem dX1_splitOut_14 : decode cX1_splitOut 14 = .ok (.getfield 9, 3) := by decide +kernel
theorem dX1_splitOut_17 : decode cX1_splitOut 17 = .ok (.iload_n 3, 1) := by decide +kernel
theorem dX1_splitOut_18 : decode cX1_splitOut 18 = .ok (.invokevirtual 30, 3) := by decide +kernel
theorem dX1_splitOut_21 : decode cX1_splitOut 21 = .ok (.aload_n 0, 1) := by decide +kernel
theorem dX1_splitOut_22 : decode cX1_splitOut 22 = .ok (.getfield 9, 3) := by decide +kernel
theorem dX1_splitOut_25 : decode cX1_splitOut 25 = .ok (.aload 4, 2) := by decide +kernel
theorem dX1_splitOut_27 : decode cX1_splitOut 27 = .ok (.getfield 115, 3) := by decide +kernel
theorem dX1_splitOut_30 : decode cX1_splitOut 30 = .ok (.invokevirtual 30, 3) := by decide +kernel
theorem dX1_splitOut_33 : decode cX1_splitOut 33 = .ok (.iconst 0, 1) := by decide +kernel
theorem dX1_splitOut_34 : decode cX1_splitOut 34 = .ok (.istore 5, 2) := by decide +kernel
theorem dX1_splitOut_36 : decode cX1_splitOut 36 = .ok (.iload 5, 2) := by decide +kernel
theorem dX1_splitOut_38 : decode cX1_splitOut 38 = .ok (.aload 4, 2) := by decide +kernel
theorem dX1_splitOut_40 : decode cX1_splitOut 40 = .ok (.getfield 115, 3) := by decide +kernel
theorem dX1_splitOut_43 : decode cX1_splitOut 43 = .ok (.if_icmp .ge 42, 3) := by decide +kernel
theorem dX1_splitOut_46 : decode cX1_splitOut 46 = .ok (.aload_n 0, 1) := by decide +kernel
theorem dX1_splitOut_47 : decode cX1_splitOut 47 = .ok (.getfield 9, 3) := by decide +kernel
theorem dX1_splitOut_50 : decode cX1_splitOut 50 = .ok (.aload 4, 2) := by decide +kernel
theorem dX1_splitOut_52 : decode cX1_splitOut 52 = .ok (.getfield 120, 3) := by decide +kernel
theorem dX1_splitOut_55 : decode cX1_splitOut 55 = .ok (.iload 5, 2) := by decide +kernel
theorem dX1_splitOut_57 : decode cX1_splitOut 57 = .ok (.iaload, 1) := by decide +kernel
theorem dX1_splitOut_58 : decode cX1_splitOut 58 = .ok (.bipush 8, 2) := by decide +kernel
theorem dX1_splitOut_60 : decode cX1_splitOut 60 = .ok (.ishr, 1) := by decide +kernel
theorem dX1_splitOut_61 : decode cX1_splitOut 61 = .ok (.invokevirtual 30, 3) := by decide +kernel
theorem dX1_splitOut_64 : decode cX1_splitOut 64 = .ok (.aload_n 0, 1) := by decide +kernel
theorem dX1_splitOut_65 : decode cX1_splitOut 65 = .ok (.getfield 9, 3) := by decide +kernel
theorem dX1_splitOut_68 : decode cX1_splitOut 68 = .ok (.aload 4, 2) := by decide +kernel
theorem dX1_splitOut_70 : decode cX1_splitOut 70 = .ok (.getfield 120, 3) := by decide +kernel
theorem dX1_splitOut_73 : decode cX1_splitOut 73 = .ok (.iload 5, 2) := by decide +kernel
theorem dX1_splitOut_75 : decode cX1_splitOut 75 = .ok (.iaload, 1) := by decide +kernel
theorem dX1_splitOut_76 : decode cX1_splitOut 76 = .ok (.invokevirtual 30, 3) := by decide +kernel
theorem dX1_splitOut_79 : decode cX1_splitOut 79 = .ok (.iinc 5 1, 3) := by decide +kernel
theorem dX1_splitOut_82 : decode cX1_splitOut 82 = .ok (.goto (-46), 3) := by decide +kernel
theorem dX1_splitOut_85 : decode cX1_splitOut 85 = .ok (.aload_n 0, 1) := by decide +kernel
theorem dX1_splitOut_86 : decode cX1_splitOut 86 = .ok (.getfield 9, 3) := by decide +kernel
theorem dX1_splitOut_89 : decode cX1_splitOut 89 = .ok (.aload_n 1, 1) := by decide +kernel
theorem dX1_splitOut_90 : decode cX1_splitOut 90 = .ok (.getfield 86, 3) := by decide +kernel
theorem dX1_splitOut_93 : decode cX1_splitOut 93 = .ok (.invokestatic 89, 3) := by decide +kernel
theorem dX1_splitOut_96 : decode cX1_splitOut 96 = .ok (.invokevirtual 30, 3) := by decide +kernel
theorem dX1_splitOut_99 : decode cX1_splitOut 99 = .ok (.iconst 0, 1) := by decide +kernel
theorem dX1_splitOut_100 : decode cX1_splitOut 100 = .ok (.istore 5, 2) := by decide +kernel
theorem dX1_splitOut_102 : decode cX1_splitOut 102 = .ok (.iload 5, 2) := by decide +kernel
theorem dX1_splitOut_104 : decode cX1_splitOut 104 = .ok (.aload_n 1, 1) := by decide +kernel
theorem dX1_splitOut_105 : decode cX1_splitOut 105 = .ok (.iload_n 2, 1) := by decide +kernel
theorem dX1_splitOut_106 : decode cX1_splitOut 106 = .ok (.invokevirtual 33, 3) := by decide +kernel
theorem dX1_splitOut_109 : decode cX1_splitOut 109 = .ok (.if_icmp .ge 58, 3) := by decide +kernel
theorem dX1_splitOut_112 : decode cX1_splitOut 112 = .ok (.aload_n 1, 1) := by decide +kernel
theorem dX1_splitOut_113 : decode cX1_splitOut 113 = .ok (.iload_n 2, 1) := by decide +kernel
theorem dX1_splitOut_114 : decode cX1_splitOut 114 = .ok (.invokevirtual 60, 3) := by decide +kernel
theorem dX1_splitOut_117 : decode cX1_splitOut 117 = .ok (.iload 5, 2) := by decide +kernel
theorem dX1_splitOut_119 : decode cX1_splitOut 119 = .ok (.iadd, 1) := by decide +kernel
theorem dX1_splitOut_120 : decode cX1_splitOut 120 = .ok (.istore 6, 2) := by decide +kernel
theorem dX1_splitOut_122 : decode cX1_splitOut 122 = .ok (.aload_n 0, 1) := by decide +kernel
theorem dX1_splitOut_123 : decode cX1_splitOut 123 = .ok (.aload 4, 2) := by decide +kernel
theorem dX1_splitOut_125 : decode cX1_splitOut 125 = .ok (.aload_n 1, 1) := by decide +kernel
theorem dX1_splitOut_126 : decode cX1_splitOut 126 = .ok (.iload 6, 2) := by decide +kernel
theorem dX1_splitOut_128 : decode cX1_splitOut 128 = .ok (.invokevirtual 123, 3) := by decide +kernel
theorem dX1_splitOut_131 : decode cX1_splitOut 131 = .ok (.invokevirtual 126, 3) := by decide +kernel
theorem dX1_splitOut_134 : decode cX1_splitOut 134 = .ok (.iconst 0, 1) := by decide +kernel
theorem dX1_splitOut_135 : decode cX1_splitOut 135 = .ok (.invokestatic 129, 3) := by decide +kernel
theorem dX1_splitOut_138 : decode cX1_splitOut 138 = .ok (.i2l, 1) := by decide +kernel
theorem dX1_splitOut_139 : decode cX1_splitOut 139 = .ok (.aload 4, 2) := by decide +kernel
theorem dX1_splitOut_141 : decode cX1_splitOut 141 = .ok (.invokevirtual 135, 3) := by decide +kernel
theorem dX1_splitOut_144 : decode cX1_splitOut 144 = .ok (.invokevirtual 56, 3) := by decide +kernel
theorem dX1_splitOut_147 : decode cX1_splitOut 147 = .ok (.aload_n 0, 1) := by decide +kernel
theorem dX1_splitOut_148 : decode cX1_splitOut 148 = .ok (.aload_n 1, 1) := by decide +kernel
theorem dX1_splitOut_149 : decode cX1_splitOut 149 = .ok (.iload 6, 2) := by decide +kernel
theorem dX1_splitOut_151 : decode cX1_splitOut 151 = .ok (.invokevirtual 63, 3) := by decide +kernel
theorem dX1_splitOut_154 : decode cX1_splitOut 154 = .ok (.bipush 64, 2) := by decide +kernel
theorem dX1_splitOut_156 : decode cX1_splitOut 156 = .ok (.iload_n 3, 1) := by decide +kernel
theorem dX1_splitOut_157 : decode cX1_splitOut 157 = .ok (.isub, 1) := by decide +kernel
theorem dX1_splitOut_158 : decode cX1_splitOut 158 = .ok (.invokevirtual 56, 3) := by decide +kernel
theorem dX1_splitOut_161 : decode cX1_splitOut 161 = .ok (.iinc 5 1, 3) := by decide +kernel
theorem dX1_splitOut_164 : decode cX1_splitOut 164 = .ok (.goto (-62), 3) := by decide +kernel
theorem dX1_splitOut_167 : decode cX1_splitOut 167 = .ok (.aload_n 0, 1) := by decide +kernel
theorem dX1_splitOut_168 : decode cX1_splitOut 168 = .ok (.invokevirtual 104, 3) := by decide +kernel
theorem dX1_splitOut_171 : decode cX1_splitOut 171 = .ok (.iconst 0, 1) := by decide +kernel
theorem dX1_splitOut_172 : decode cX1_splitOut 172 = .ok (.istore 5, 2) := by decide +kernel
theorem dX1_splitOut_174 : decode cX1_splitOut 174 = .ok (.iload 5, 2) := by decide +kernel
theorem dX1_splitOut_176 : decode cX1_splitOut 176 = .ok (.aload_n 1, 1) := by decide +kernel
theorem dX1_splitOut_177 : decode cX1_splitOut 177 = .ok (.iload_n 2, 1) := by decide +kernel
theorem dX1_splitOut_178 : decode cX1_splitOut 178 = .ok (.invokevirtual 33, 3) := by decide +kernel
theorem dX1_splitOut_181 : decode cX1_splitOut 181 = .ok (.if_icmp .ge 66, 3) := by decide +kernel
theorem dX1_splitOut_184 : decode cX1_splitOut 184 = .ok (.aload_n 1, 1) := by decide +kernel
theorem dX1_splitOut_185 : decode cX1_splitOut 185 = .ok (.getfield 86, 3) := by decide +kernel
theorem dX1_splitOut_188 : decode cX1_splitOut 188 = .ok (.iload 5, 2) := by decide +kernel
theorem dX1_splitOut_190 : decode cX1_splitOut 190 = .ok (.ishr, 1) := by decide +kernel
theorem dX1_splitOut_191 : decode cX1_splitOut 191 = .ok (.iconst 1, 1) := by decide +kernel
theorem dX1_splitOut_192 : decode cX1_splitOut 192 = .ok (.iand, 1) := by decide +kernel
theorem dX1_splitOut_193 : decode cX1_splitOut 193 = .ok (.iconst 1, 1) := by decide +kernel
theorem dX1_splitOut_194 : decode cX1_splitOut 194 = .ok (.if_icmp .ne 47, 3) := by decide +kernel
theorem dX1_splitOut_197 : decode cX1_splitOut 197 = .ok (.aload_n 1, 1) := by decide +kernel
theorem dX1_splitOut_198 : decode cX1_splitOut 198 = .ok (.aload_n 1, 1) := by decide +kernel
theorem dX1_splitOut_199 : decode cX1_splitOut 199 = .ok (.iload_n 2, 1) := by decide +kernel
theorem dX1_splitOut_200 : decode cX1_splitOut 200 = .ok (.invokevirtual 60, 3) := by decide +kernel
theorem dX1_splitOut_203 : decode cX1_splitOut 203 = .ok (.iload 5, 2) := by decide +kernel
theorem dX1_splitOut_205 : decode cX1_splitOut 205 = .ok (.iadd, 1) := by decide +kernel
theorem dX1_splitOut_206 : decode cX1_splitOut 206 = .ok (.invokevirtual 123, 3) := by decide +kernel
theorem dX1_splitOut_209 : decode cX1_splitOut 209 = .ok (.istore 6, 2) := by decide +kernel
theorem dX1_splitOut_211 : decode cX1_splitOut 211 = .ok (.aload_n 0, 1) := by decide +kernel
theorem dX1_splitOut_212 : decode cX1_splitOut 212 = .ok (.getfield 9, 3) := by decide +kernel
theorem dX1_splitOut_215 : decode cX1_splitOut 215 = .ok (.iload 5, 2) := by decide +kernel
theorem dX1_splitOut_217 : decode cX1_splitOut 217 = .ok (.invokevirtual 30, 3) := by decide +kernel
theorem dX1_splitOut_220 : decode cX1_splitOut 220 = .ok (.aload_n 0, 1) := by decide +kernel
theorem dX1_splitOut_221 : decode cX1_splitOut 221 = .ok (.getfield 9, 3) := by decide +kernel
theorem dX1_splitOut_224 : decode cX1_splitOut 224 = .ok (.iload 6, 2) := by decide +kernel
theorem dX1_splitOut_226 : decode cX1_splitOut 226 = .ok (.bipush 8, 2) := by decide +kernel
theorem dX1_splitOut_228 : decode cX1_splitOut 228 = .ok (.ishr, 1) := by decide +kernel
theorem dX1_splitOut_229 : decode cX1_splitOut 229 = .ok (.invokevirtual 30, 3) := by decide +kernel
theorem dX1_splitOut_232 : decode cX1_splitOut 232 = .ok (.aload_n 0, 1) := by decide +kernel
theorem dX1_splitOut_233 : decode cX1_splitOut 233 = .ok (.getfield 9, 3) := by decide +kernel
theorem dX1_splitOut_236 : decode cX1_splitOut 236 = .ok (.iload 6, 2) := by decide +kernel
theorem dX1_splitOut_238 : decode cX1_splitOut 238 = .ok (.invokevirtual 30, 3) := by decide +kernel
theorem dX1_splitOut_241 : decode cX1_splitOut 241 = .ok (.iinc 5 1, 3) := by decide +kernel
theorem dX1_splitOut_244 : decode cX1_splitOut 244 = .ok (.goto (-70), 3) := by decide +kernel
theorem dX1_splitOut_247 : decode cX1_splitOut 247 = .ok (.return_, 1) := by decide +kernel
theorem dX2_init_0 : decode cX2_init 0 = .ok (.aload_n 0, 1) := by decide +kernel
theorem dX2_init_1 : decode cX2_init 1 = .ok (.invokespecial 3, 3) := by decide +kernel
theorem dX2_init_4 : decode cX2_init 4 = .ok (.aload_n 0, 1) := by decide +kernel
theorem dX2_init_5 : decode cX2_init 5 = .ok (.bipush 64, 2) := by decide +kernel
theorem dX2_init_7 : decode cX2_init 7 = .ok (.newarray .long, 2) := by decide +kernel
theorem dX2_init_9 : decode cX2_init 9 = .ok (.putfield 9, 3) := by decide +kernel
theorem dX2_init_12 : decode cX2_init 12 = .ok (.aload_n 0, 1) := by decide +kernel
theorem dX2_init_13 : decode cX2_init 13 = .ok (.iconst 5, 1) := by decide +kernel
theorem dX2_init_14 : decode cX2_init 14 = .ok (.newarray .int, 2) := by decide +kernel
theorem dX2_init_16 : decode cX2_init 16 = .ok (.putfield 15, 3) := by decide +kernel
theorem dX2_init_19 : decode cX2_init 19 = .ok (.aload_n 0, 1) := by decide +kernel
theorem dX2_init_20 : decode cX2_init 20 = .ok (.sipush 180, 3) := by decide +kernel
theorem dX2_init_23 : decode cX2_init 23 = .ok (.newarray .int, 2) := by decide +kernel
theorem dX2_init_25 : decode cX2_init 25 = .ok (.putfield 19, 3) := by decide +kernel
theorem dX2_init_28 : decode cX2_init 28 = .ok (.aload_n 0, 1) := by decide +kernel
theorem dX2_init_29 : decode cX2_init 29 = .ok (.invokevirtual 22, 3) := by decide +kernel
theorem dX2_init_32 : decode cX2_init 32 = .ok (.return_, 1) := by decide +kernel
theorem dX2_clear_0 : decode cX2_clear 0 = .ok (.aload_n 0, 1) := by decide +kernel
theorem dX2_clear_1 : decode cX2_clear 1 = .ok (.iconst 0, 1) := by decide +kernel
theorem dX2_clear_2 : decode cX2_clear 2 = .ok (.putfield 25, 3) := by decide +kernel
theorem dX2_clear_5 : decode cX2_clear 5 = .ok (.aload_n 0, 1) := by decide +kernel
theorem dX2_clear_6 : decode cX2_clear 6 = .ok (.iconst 0, 1) := by decide +kernel
theorem dX2_clear_7 : decode cX2_clear 7 = .ok (.putfield 29, 3) := by decide +kernel
theorem dX2_clear_10 : decode cX2_clear 10 = .ok (.getstatic 32, 3) := by decide +kernel
theorem dX2_clear_13 : decode cX2_clear 13 = .ok (.iconst 0, 1) := by decide +kernel
theorem dX2_clear_14 : decode cX2_clear 14 = .ok (.aload_n 0, 1) := by decide +kernel
theorem dX2_clear_15 : decode cX2_clear 15 = .ok (.getfield 15, 3) := by decide +kernel
theorem dX2_clear_18 : decode cX2_clear 18 = .ok (.iconst 0, 1) := by decide +kernel
theorem dX2_clear_19 : decode cX2_clear 19 = .ok (.iconst 5, 1) := by decide +kernel
theorem dX2_clear_20 : decode cX2_clear 20 = .ok (.invokestatic 35, 3) := by decide +kernel
theorem dX2_clear_23 : decode cX2_clear 23 = .ok (.return_, 1) := by decide +kernel
theorem dX2_become_0 : decode cX2_become 0 = .ok (.aload_n 0, 1) := by decide +kernel
theorem dX2_become_1 : decode cX2_become 1 = .ok (.aload_n 1, 1) := by decide +kernel
theorem dX2_become_2 : decode cX2_become 2 = .ok (.getfield 25, 3) := by decide +kernel
theorem dX2_become_5 : decode cX2_become 5 = .ok (.putfield 25, 3) := by decide +kernel
theorem dX2_become_8 : decode cX2_become 8 = .ok (.aload_n 0, 1) := by decide +kernel
theorem dX2_become_9 : decode cX2_become 9 = .ok (.aload_n 1, 1) := by decide +kernel
theorem dX2_become_10 : decode cX2_become 10 = .ok (.getfield 29, 3) := by decide +kernel
theorem dX2_become_13 : decode cX2_become 13 = .ok (.putfield 29, 3) := by decide +kernel
theorem dX2_become_16 : decode cX2_become 16 = .ok (.aload_n 1, 1) := by decide +kernel
theorem dX2_become_17 : decode cX2_become 17 = .ok (.getfield 9, 3) := by decide +kernel
theorem dX2_become_20 : decode cX2_become 20 = .ok (.iconst 0, 1) := by decide +kernel
theorem dX2_become_21 : decode cX2_become 21 = .ok (.aload_n 0, 1) := by decide +kernel
theorem dX2_become_22 : decode cX2_become 22 = .ok (.getfield 9, 3) := by decide +kernel
theorem dX2_become_25 : decode cX2_become 25 = .ok (.iconst 0, 1) := by decide +kernel
theorem dX2_become_26 : decode cX2_become 26 = .ok (.aload_n 1, 1) := by decide +kernel
theorem dX2_become_27 : decode cX2_become 27 = .ok (.getfield 25, 3) := by decide +kernel
theorem dX2_become_30 : decode cX2_become 30 = .ok (.invokestatic 35, 3) := by decide +kernel
theorem dX2_become_33 : decode cX2_become 33 = .ok (.aload_n 1, 1) := by decide +kernel
theorem dX2_become_34 : decode cX2_become 34 = .ok (.getfield 15, 3) := by decide +kernel
theorem dX2_become_37 : decode cX2_become 37 = .ok (.iconst 0, 1) := by decide +kernel
theorem dX2_become_38 : decode cX2_become 38 = .ok (.aload_n 0, 1) := by decide +kernel
theorem dX2_become_39 : decode cX2_become 39 = .ok (.getfield 15, 3) := by decide +kernel
theorem dX2_become_42 : decode cX2_become 42 = .ok (.iconst 0, 1) := by decide +kernel
theorem dX2_become_43 : decode cX2_become 43 = .ok (.iconst 5, 1) := by decide +kernel
theorem dX2_become_44 : decode cX2_become 44 = .ok (.invokestatic 35, 3) := by decide +kernel
theorem dX2_become_47 : decode cX2_become 47 = .ok (.aload_n 1, 1) := by decide +kernel
theorem dX2_become_48 : decode cX2_become 48 = .ok (.getfield 19, 3) := by decide +kernel
theorem dX2_become_51 : decode cX2_become 51 = .ok (.iconst 0, 1) := by decide +kernel
theorem dX2_become_52 : decode cX2_become 52 = .ok (.aload_n 0, 1) := by decide +kernel
theorem dX2_become_53 : decode cX2_become 53 = .ok (.getfield 19, 3) := by decide +kernel
theorem dX2_become_56 : decode cX2_become 56 = .ok (.iconst 0, 1) := by decide +kernel
theorem dX2_become_57 : decode cX2_become 57 = .ok (.iconst 3, 1) := by decide +kernel
theorem dX2_become_58 : decode cX2_become 58 = .ok (.aload_n 1, 1) := by decide +kernel
theorem dX2_become_59 : decode cX2_become 59 = .ok (.getfield 29, 3) := by decide +kernel
theorem dX2_become_62 : decode cX2_become 62 = .ok (.imul, 1) := by decide +kernel
theorem dX2_become_63 : decode cX2_become 63 = .ok (.invokestatic 35, 3) := by decide +kernel
theorem dX2_become_66 : decode cX2_become 66 = .ok (.return_, 1) := by decide +kernel
theorem dX2_append_0 : decode cX2_append 0 = .ok (.aload_n 0, 1) := by decide +kernel
theorem dX2_append_1 : decode cX2_append 1 = .ok (.getfield 25, 3) := by decide +kernel
theorem dX2_append_4 : decode cX2_append 4 = .ok (.bipush 64, 2) := by decide +kernel
theorem dX2_append_6 : decode cX2_append 6 = .ok (.if_icmp .ge 23, 3) := by decide +kernel
theorem dX2_append_9 : decode cX2_append 9 = .ok (.aload_n 0, 1) := by decide +kernel
theorem dX2_append_10 : decode cX2_append 10 = .ok (.getfield 9, 3) := by decide +kernel
theorem dX2_append_13 : decode cX2_append 13 = .ok (.aload_n 0, 1) := by decide +kernel
theorem dX2_append_14 : decode cX2_append 14 = .ok (.getfield 25, 3) := by decide +kernel
theorem dX2_append_17 : decode cX2_append 17 = .ok (.lload_n 1, 1) := by decide +kernel
theorem dX2_append_18 : decode cX2_append 18 = .ok (.lastore, 1) := by decide +kernel
theorem dX2_append_19 : decode cX2_append 19 = .ok (.aload_n 0, 1) := by decide +kernel
theorem dX2_append_20 : decode cX2_append 20 = .ok (.dup, 1) := by decide +kernel
theorem dX2_append_21 : decode cX2_append 21 = .ok (.getfield 25, 3) := by decide +kernel
theorem dX2_append_24 : decode cX2_append 24 = .ok (.iconst 1, 1) := by decide +kernel
theorem dX2_append_25 : decode cX2_append 25 = .ok (.iadd, 1) := by decide +kernel
theorem dX2_append_26 : decode cX2_append 26 = .ok (.putfield 25, 3) := by decide +kernel
theorem dX2_append_29 : decode cX2_append 29 = .ok (.return_, 1) := by decide +kernel
theorem dX2_note_0 : decode cX2_note 0 = .ok (.aload_n 0, 1) := by decide +kernel
theorem dX2_note_1 : decode cX2_note 1 = .ok (.getfield 29, 3) := by decide +kernel
theorem dX2_note_4 : decode cX2_note 4 = .ok (.bipush 60, 2) := by decide +kernel
theorem dX2_note_6 : decode cX2_note 6 = .ok (.if_icmp .ne 29, 3) := by decide +kernel
theorem dX2_note_9 : decode cX2_note 9 = .ok (.aload_n 0, 1) := by decide +kernel
theorem dX2_note_10 : decode cX2_note 10 = .ok (.getfield 19, 3) := by decide +kernel
theorem dX2_note_13 : decode cX2_note 13 = .ok (.iconst 3, 1) := by decide +kernel
theorem dX2_note_14 : decode cX2_note 14 = .ok (.aload_n 0, 1) := by decide +kernel
theorem dX2_note_15 : decode cX2_note 15 = .ok (.getfield 19, 3) := by decide +kernel
theorem dX2_note_18 : decode cX2_note 18 = .ok (.iconst 0, 1) := by decide +kernel
theorem dX2_note_19 : decode cX2_note 19 = .ok (.sipush 177, 3) := by decide +kernel
theorem dX2_note_22 : decode cX2_note 22 = .ok (.invokestatic 35, 3) := by decide +kernel
theorem dX2_note_25 : decode cX2_note 25 = .ok (.aload_n 0, 1) := by decide +kernel
theorem dX2_note_26 : decode cX2_note 26 = .ok (.dup, 1) := by decide +kernel
theorem dX2_note_27 : decode cX2_note 27 = .ok (.getfield 29, 3) := by decide +kernel
theorem dX2_note_30 : decode cX2_note 30 = .ok (.iconst 1, 1) := by decide +kernel
theorem dX2_note_31 : decode cX2_note 31 = .ok (.isub, 1) := by decide +kernel
theorem dX2_note_32 : decode cX2_note 32 = .ok (.putfield 29, 3) := by decide +kernel
theorem dX2_note_35 : decode cX2_note 35 = .ok (.aload_n 0, 1) := by decide +kernel
theorem dX2_note_36 : decode cX2_note 36 = .ok (.getfield 19, 3) := by decide +kernel
theorem dX2_note_39 : decode cX2_note 39 = .ok (.iconst 3, 1) := by decide +kernel
theorem dX2_note_40 : decode cX2_note 40 = .ok (.aload_n 0, 1) := by decide +kernel
theorem dX2_note_41 : decode cX2_note 41 = .ok (.getfield 29, 3) := by decide +kernel
theorem dX2_note_44 : decode cX2_note 44 = .ok (.imul, 1) := by decide +kernel
theorem dX2_note_45 : decode cX2_note 45 = .ok (.iload_n 1, 1) := by decide +kernel
theorem dX2_note_46 : decode cX2_note 46 = .ok (.iastore, 1) := by decide +kernel
theorem dX2_note_47 : decode cX2_note 47 = .ok (.aload_n 0, 1) := by decide +kernel
theorem dX2_note_48 : decode cX2_note 48 = .ok (.getfield 19, 3) := by decide +kernel
theorem dX2_note_51 : decode cX2_note 51 = .ok (.iconst 3, 1) := by decide +kernel
theorem dX2_note_52 : decode cX2_note 52 = .ok (.aload_n 0, 1) := by decide +kernel
theorem dX2_note_53 : decode cX2_note 53 = .ok (.getfield 29, 3) := by decide +kernel
theorem dX2_note_56 : decode cX2_note 56 = .ok (.imul, 1) := by decide +kernel
theorem dX2_note_57 : decode cX2_note 57 = .ok (.iconst 1, 1) := by decide +kernel
theorem dX2_note_58 : decode cX2_note 58 = .ok (.iadd, 1) := by decide +kernel
theorem dX2_note_59 : decode cX2_note 59 = .ok (.iload_n 2, 1) := by decide +kernel
theorem dX2_note_60 : decode cX2_note 60 = .ok (.iastore, 1) := by decide +kernel
theorem dX2_note_61 : decode cX2_note 61 = .ok (.aload_n 0, 1) := by decide +kernel
theorem dX2_note_62 : decode cX2_note 62 = .ok (.getfield 19, 3) := by decide +kernel
theorem dX2_note_65 : decode cX2_note 65 = .ok (.iconst 3, 1) := by decide +kernel
theorem dX2_note_66 : decode cX2_note 66 = .ok (.aload_n 0, 1) := by decide +kernel
theorem dX2_note_67 : decode cX2_note 67 = .ok (.getfield 29, 3) := by decide +kernel
theorem dX2_note_70 : decode cX2_note 70 = .ok (.imul, 1) := by decide +kernel
theorem dX2_note_71 : decode cX2_note 71 = .ok (.iconst 2, 1) := by decide +kernel
theorem dX2_note_72 : decode cX2_note 72 = .ok (.iadd, 1) := by decide +kernel
theorem dX2_note_73 : decode cX2_note 73 = .ok (.aload_n 0, 1) := by decide +kernel
theorem dX2_note_74 : decode cX2_note 74 = .ok (.getfield 25, 3) := by decide +kernel
theorem dX2_note_77 : decode cX2_note 77 = .ok (.iastore, 1) := by decide +kernel
theorem dX2_note_78 : decode cX2_note 78 = .ok (.aload_n 0, 1) := by decide +kernel
theorem dX2_note_79 : decode cX2_note 79 = .ok (.dup, 1) := by decide +kernel
theorem dX2_note_80 : decode cX2_note 80 = .ok (.getfield 29, 3) := by decide +kernel
theorem dX2_note_83 : decode cX2_note 83 = .ok (.iconst 1, 1) := by decide +kernel
theorem dX2_note_84 : decode cX2_note 84 = .ok (.iadd, 1) := by decide +kernel
theorem dX2_note_85 : decode cX2_note 85 = .ok (.putfield 29, 3) := by decide +kernel
theorem dX2_note_88 : decode cX2_note 88 = .ok (.return_, 1) := by decide +kernel
theorem dX2_noteAt_0 : decode cX2_noteAt 0 = .ok (.aload_n 0, 1) := by decide +kernel
theorem dX2_noteAt_1 : decode cX2_noteAt 1 = .ok (.getfield 19, 3) := by decide +kernel
theorem dX2_noteAt_4 : decode cX2_noteAt 4 = .ok (.iconst 3, 1) := by decide +kernel
theorem dX2_noteAt_5 : decode cX2_noteAt 5 = .ok (.aload_n 0, 1) := by decide +kernel
theorem dX2_noteAt_6 : decode cX2_noteAt 6 = .ok (.getfield 29, 3) := by decide +kernel
theorem dX2_noteAt_9 : decode cX2_noteAt 9 = .ok (.iconst 1, 1) := by decide +kernel
theorem dX2_noteAt_10 : decode cX2_noteAt 10 = .ok (.isub, 1) := by decide +kernel
theorem dX2_noteAt_11 : decode cX2_noteAt 11 = .ok (.iload_n 1, 1) := by decide +kernel
theorem dX2_noteAt_12 : decode cX2_noteAt 12 = .ok (.isub, 1) := by decide +kernel
theorem dX2_noteAt_13 : decode cX2_noteAt 13 = .ok (.imul, 1) := by decide +kernel
theorem dX2_noteAt_14 : decode cX2_noteAt 14 = .ok (.iload_n 2, 1) := by decide +kernel
theorem dX2_noteAt_15 : decode cX2_noteAt 15 = .ok (.iadd, 1) := by decide +kernel
theorem dX2_noteAt_16 : decode cX2_noteAt 16 = .ok (.iaload, 1) := by decide +kernel
theorem dX2_noteAt_17 : decode cX2_noteAt 17 = .ok (.ireturn, 1) := by decide +kernel
theorem dX2_blocks_0 : decode cX2_blocks 0 = .ok (.aload_n 0, 1) := by decide +kernel
theorem dX2_blocks_1 : decode cX2_blocks 1 = .ok (.getfield 25, 3) := by decide +kernel
theorem dX2_blocks_4 : decode cX2_blocks 4 = .ok (.aload_n 0, 1) := by decide +kernel
theorem dX2_blocks_5 : decode cX2_blocks 5 = .ok (.getfield 15, 3) := by decide +kernel
theorem dX2_blocks_8 : decode cX2_blocks 8 = .ok (.iconst 0, 1) := by decide +kernel
theorem dX2_blocks_9 : decode cX2_blocks 9 = .ok (.iaload, 1) := by decide +kernel
theorem dX2_blocks_10 : decode cX2_blocks 10 = .ok (.invokestatic 41, 3) := by decide +kernel
theorem dX2_blocks_13 : decode cX2_blocks 13 = .ok (.ireturn, 1) := by decide +kernel
theorem dX2_firstLike_0 : decode cX2_firstLike 0 = .ok (.iconst 0, 1) := by decide +kernel
theorem dX2_firstLike_1 : decode cX2_firstLike 1 = .ok (.istore_n 2, 1) := by decide +kernel
theorem dX2_firstLike_2 : decode cX2_firstLike 2 = .ok (.iload_n 2, 1) := by decide +kernel
theorem dX2_firstLike_3 : decode cX2_firstLike 3 = .ok (.iload_n 1, 1) := by decide +kernel
theorem dX2_firstLike_4 : decode cX2_firstLike 4 = .ok (.if_icmp .ge 27, 3) := by decide +kernel
theorem dX2_firstLike_7 : decode cX2_firstLike 7 = .ok (.aload_n 0, 1) := by decide +kernel
theorem dX2_firstLike_8 : decode cX2_firstLike 8 = .ok (.getfield 9, 3) := by decide +kernel
theorem dX2_firstLike_11 : decode cX2_firstLike 11 = .ok (.iload_n 2, 1) := by decide +kernel
theorem dX2_firstLike_12 : decode cX2_firstLike 12 = .ok (.laload, 1) := by decide +kernel
theorem dX2_firstLike_13 : decode cX2_firstLike 13 = .ok (.aload_n 0, 1) := by decide +kernel
theorem dX2_firstLike_14 : decode cX2_firstLike 14 = .ok (.getfield 9, 3) := by decide +kernel
theorem dX2_firstLike_17 : decode cX2_firstLike 17 = .ok (.iload_n 1, 1) := by decide +kernel
theorem dX2_firstLike_18 : decode cX2_firstLike 18 = .ok (.laload, 1) := by decide +kernel
theorem dX2_firstLike_19 : decode cX2_firstLike 19 = .ok (.lcmp, 1) := by decide +kernel
theorem dX2_firstLike_20 : decode cX2_firstLike 20 = .ok (.ifCond .ne 5, 3) := by decide +kernel
theorem dX2_firstLike_23 : decode cX2_firstLike 23 = .ok (.iload_n 2, 1) := by decide +kernel
theorem dX2_firstLike_24 : decode cX2_firstLike 24 = .ok (.ireturn, 1) := by decide +kernel
theorem dX2_firstLike_25 : decode cX2_firstLike 25 = .ok (.iinc 2 1, 3) := by decide +kernel
theorem dX2_firstLike_28 : decode cX2_firstLike 28 = .ok (.goto (-26), 3) := by decide +kernel
theorem dX2_firstLike_31 : decode cX2_firstLike 31 = .ok (.iload_n 1, 1) := by decide +kernel
theorem dX2_firstLike_32 : decode cX2_firstLike 32 = .ok (.ireturn, 1) := by decide +kernel
theorem dX2_countLike_0 : decode cX2_countLike 0 = .ok (.iconst 0, 1) := by decide +kernel
theorem dX2_countLike_1 : decode cX2_countLike 1 = .ok (.istore_n 2, 1) := by decide +kernel
theorem dX2_countLike_2 : decode cX2_countLike 2 = .ok (.iconst 0, 1) := by decide +kernel
theorem dX2_countLike_3 : decode cX2_countLike 3 = .ok (.istore_n 3, 1) := by decide +kernel
theorem dX2_countLike_4 : decode cX2_countLike 4 = .ok (.iload_n 3, 1) := by decide +kernel
theorem dX2_countLike_5 : decode cX2_countLike 5 = .ok (.aload_n 0, 1) := by decide +kernel
theorem dX2_countLike_6 : decode cX2_countLike 6 = .ok (.getfield 25, 3) := by decide +kernel
theorem dX2_countLike_9 : decode cX2_countLike 9 = .ok (.if_icmp .ge 28, 3) := by decide +kernel
theorem dX2_countLike_12 : decode cX2_countLike 12 = .ok (.aload_n 0, 1) := by decide +kernel
theorem dX2_countLike_13 : decode cX2_countLike 13 = .ok (.getfield 9, 3) := by decide +kernel
theorem dX2_countLike_16 : decode cX2_countLike 16 = .ok (.iload_n 3, 1) := by decide +kernel
theorem dX2_countLike_17 : decode cX2_countLike 17 = .ok (.laload, 1) := by decide +kernel
theorem dX2_countLike_18 : decode cX2_countLike 18 = .ok (.aload_n 0, 1) := by decide +kernel
theorem dX2_countLike_19 : decode cX2_countLike 19 = .ok (.getfield 9, 3) := by decide +kernel
theorem dX2_countLike_22 : decode cX2_countLike 22 = .ok (.iload_n 1, 1) := by decide +kernel
theorem dX2_countLike_23 : decode cX2_countLike 23 = .ok (.laload, 1) := by decide +kernel
theorem dX2_countLike_24 : decode cX2_countLike 24 = .ok (.lcmp, 1) := by decide +kernel
theorem dX2_countLike_25 : decode cX2_countLike 25 = .ok (.ifCond .ne 6, 3) := by decide +kernel
theorem dX2_countLike_28 : decode cX2_countLike 28 = .ok (.iinc 2 1, 3) := by decide +kernel
theorem dX2_countLike_31 : decode cX2_countLike 31 = .ok (.iinc 3 1, 3) := by decide +kernel
theorem dX2_countLike_34 : decode cX2_countLike 34 = .ok (.goto (-30), 3) := by decide +kernel
theorem dX2_countLike_37 : decode cX2_countLike 37 = .ok (.iload_n 2, 1) := by decide +kernel
theorem dX2_countLike_38 : decode cX2_countLike 38 = .ok (.ireturn, 1) := by decide +kernel
theorem dX2_patterns_0 : decode cX2_patterns 0 = .ok (.iconst 0, 1) := by decide +kernel
theorem dX2_patterns_1 : decode cX2_patterns 1 = .ok (.istore_n 2, 1) := by decide +kernel
theorem dX2_patterns_2 : decode cX2_patterns 2 = .ok (.iconst 0, 1) := by decide +kernel
theorem dX2_patterns_3 : decode cX2_patterns 3 = .ok (.istore_n 3, 1) := by decide +kernel
theorem dX2_patterns_4 : decode cX2_patterns 4 = .ok (.iload_n 3, 1) := by decide +kernel
theorem dX2_patterns_5 : decode cX2_patterns 5 = .ok (.aload_n 0, 1) := by decide +kernel
theorem dX2_patterns_6 : decode cX2_patterns 6 = .ok (.getfield 25, 3) := by decide +kernel
theorem dX2_patterns_9 : decode cX2_patterns 9 = .ok (.if_icmp .ge 37, 3) := by decide +kernel
theorem dX2_patterns_12 : decode cX2_patterns 12 = .ok (.aload_n 0, 1) := by decide +kernel
theorem dX2_patterns_13 : decode cX2_patterns 13 = .ok (.iload_n 3, 1) := by decide +kernel
theorem dX2_patterns_14 : decode cX2_patterns 14 = .ok (.invokevirtual 45, 3) := by decide +kernel
theorem dX2_patterns_17 : decode cX2_patterns 17 = .ok (.iload_n 3, 1) := by decide +kernel
theorem dX2_patterns_18 : decode cX2_patterns 18 = .ok (.if_icmp .ne 22, 3) := by decide +kernel
theorem dX2_patterns_21 : decode cX2_patterns 21 = .ok (.iload_n 1, 1) := by decide +kernel
theorem dX2_patterns_22 : decode cX2_patterns 22 = .ok (.ifCond .eq 15, 3) := by decide +kernel
theorem dX2_patterns_25 : decode cX2_patterns 25 = .ok (.aload_n 0, 1) := by decide +kernel
theorem dX2_patterns_26 : decode cX2_patterns 26 = .ok (.getfield 9, 3) := by decide +kernel
theorem dX2_patterns_29 : decode cX2_patterns 29 = .ok (.iload_n 3, 1) := by decide +kernel
theorem dX2_patterns_30 : decode cX2_patterns 30 = .ok (.laload, 1) := by decide +kernel
theorem dX2_patterns_31 : decode cX2_patterns 31 = .ok (.invokestatic 49, 3) := by decide +kernel
theorem dX2_patterns_34 : decode cX2_patterns 34 = .ok (.ifCond .eq 6, 3) := by decide +kernel
theorem dX2_patterns_37 : decode cX2_patterns 37 = .ok (.iinc 2 1, 3) := by decide +kernel
theorem dX2_patterns_40 : decode cX2_patterns 40 = .ok (.iinc 3 1, 3) := by decide +kernel
theorem dX2_patterns_43 : decode cX2_patterns 43 = .ok (.goto (-39), 3) := by decide +kernel
theorem dX2_patterns_46 : decode cX2_patterns 46 = .ok (.iload_n 2, 1) := by decide +kernel
theorem dX2_patterns_47 : decode cX2_patterns 47 = .ok (.ireturn, 1) := by decide +kernel
theorem dX2_runs_0 : decode cX2_runs 0 = .ok (.iconst 0, 1) := by decide +kernel
theorem dX2_runs_1 : decode cX2_runs 1 = .ok (.istore_n 1, 1) := by decide +kernel
theorem dX2_runs_2 : decode cX2_runs 2 = .ok (.iconst 0, 1) := by decide +kernel
theorem dX2_runs_3 : decode cX2_runs 3 = .ok (.istore_n 2, 1) := by decide +kernel
theorem dX2_runs_4 : decode cX2_runs 4 = .ok (.iload_n 2, 1) := by decide +kernel
theorem dX2_runs_5 : decode cX2_runs 5 = .ok (.aload_n 0, 1) := by decide +kernel
theorem dX2_runs_6 : decode cX2_runs 6 = .ok (.getfield 25, 3) := by decide +kernel
theorem dX2_runs_9 : decode cX2_runs 9 = .ok (.if_icmp .ge 34, 3) := by decide +kernel
theorem dX2_runs_12 : decode cX2_runs 12 = .ok (.iload_n 2, 1) := by decide +kernel
theorem dX2_runs_13 : decode cX2_runs 13 = .ok (.ifCond .eq 21, 3) := by decide +kernel
theorem dX2_runs_16 : decode cX2_runs 16 = .ok (.aload_n 0, 1) := by decide +kernel
theorem dX2_runs_17 : decode cX2_runs 17 = .ok (.getfield 9, 3) := by decide +kernel
theorem dX2_runs_20 : decode cX2_runs 20 = .ok (.iload_n 2, 1) := by decide +kernel
theorem dX2_runs_21 : decode cX2_runs 21 = .ok (.laload, 1) := by decide +kernel
theorem dX2_runs_22 : decode cX2_runs 22 = .ok (.aload_n 0, 1) := by decide +kernel
theorem dX2_runs_23 : decode cX2_runs 23 = .ok (.getfield 9, 3) := by decide +kernel
theorem dX2_runs_26 : decode cX2_runs 26 = .ok (.iload_n 2, 1) := by decide +kernel
theorem dX2_runs_27 : decode cX2_runs 27 = .ok (.iconst 1, 1) := by decide +kernel
theorem dX2_runs_28 : decode cX2_runs 28 = .ok (.isub, 1) := by decide +kernel
theorem dX2_runs_29 : decode cX2_runs 29 = .ok (.laload, 1) := by decide +kernel
theorem dX2_runs_30 : decode cX2_runs 30 = .ok (.lcmp, 1) := by decide +kernel
theorem dX2_runs_31 : decode cX2_runs 31 = .ok (.ifCond .eq 6, 3) := by decide +kernel
theorem dX2_runs_34 : decode cX2_runs 34 = .ok (.iinc 1 1, 3) := by decide +kernel
theorem dX2_runs_37 : decode cX2_runs 37 = .ok (.iinc 2 1, 3) := by decide +kernel
theorem dX2_runs_40 : decode cX2_runs 40 = .ok (.goto (-36), 3) := by decide +kernel
theorem dX2_runs_43 : decode cX2_runs 43 = .ok (.iload_n 1, 1) := by decide +kernel
theorem dX2_runs_44 : decode cX2_runs 44 = .ok (.ireturn, 1) := by decide +kernel
theorem dX2_finites_0 : decode cX2_finites 0 = .ok (.iconst 0, 1) := by decide +kernel
theorem dX2_finites_1 : decode cX2_finites 1 = .ok (.istore_n 1, 1) := by decide +kernel
theorem dX2_finites_2 : decode cX2_finites 2 = .ok (.iconst 0, 1) := by decide +kernel
theorem dX2_finites_3 : decode cX2_finites 3 = .ok (.istore_n 2, 1) := by decide +kernel
theorem dX2_finites_4 : decode cX2_finites 4 = .ok (.iload_n 2, 1) := by decide +kernel
theorem dX2_finites_5 : decode cX2_finites 5 = .ok (.aload_n 0, 1) := by decide +kernel
theorem dX2_finites_6 : decode cX2_finites 6 = .ok (.getfield 25, 3) := by decide +kernel
theorem dX2_finites_9 : decode cX2_finites 9 = .ok (.if_icmp .ge 29, 3) := by decide +kernel
theorem dX2_finites_12 : decode cX2_finites 12 = .ok (.iload_n 1, 1) := by decide +kernel
theorem dX2_finites_13 : decode cX2_finites 13 = .ok (.aload_n 0, 1) := by decide +kernel
theorem dX2_finites_14 : decode cX2_finites 14 = .ok (.getfield 9, 3) := by decide +kernel
theorem dX2_finites_17 : decode cX2_finites 17 = .ok (.iload_n 2, 1) := by decide +kernel
theorem dX2_finites_18 : decode cX2_finites 18 = .ok (.laload, 1) := by decide +kernel
theorem dX2_finites_19 : decode cX2_finites 19 = .ok (.invokestatic 53, 3) := by decide +kernel
theorem dX2_finites_22 : decode cX2_finites 22 = .ok (.ifCond .eq 7, 3) := by decide +kernel
theorem dX2_finites_25 : decode cX2_finites 25 = .ok (.iconst 1, 1) := by decide +kernel
theorem dX2_finites_26 : decode cX2_finites 26 = .ok (.goto 4, 3) := by decide +kernel
theorem dX2_finites_29 : decode cX2_finites 29 = .ok (.iconst 0, 1) := by decide +kernel
theorem dX2_finites_30 : decode cX2_finites 30 = .ok (.iadd, 1) := by decide +kernel
theorem dX2_finites_31 : decode cX2_finites 31 = .ok (.istore_n 1, 1) := by decide +kernel
theorem dX2_finites_32 : decode cX2_finites 32 = .ok (.iinc 2 1, 3) := by decide +kernel
theorem dX2_finites_35 : decode cX2_finites 35 = .ok (.goto (-31), 3) := by decide +kernel
theorem dX2_finites_38 : decode cX2_finites 38 = .ok (.iload_n 1, 1) := by decide +kernel
theorem dX2_finites_39 : decode cX2_finites 39 = .ok (.ireturn, 1) := by decide +kernel
theorem dX2_missing_0 : decode cX2_missing 0 = .ok (.iconst 0, 1) := by decide +kernel
theorem dX2_missing_1 : decode cX2_missing 1 = .ok (.istore_n 1, 1) := by decide +kernel
theorem dX2_missing_2 : decode cX2_missing 2 = .ok (.iconst 0, 1) := by decide +kernel
theorem dX2_missing_3 : decode cX2_missing 3 = .ok (.istore_n 2, 1) := by decide +kernel
theorem dX2_missing_4 : decode cX2_missing 4 = .ok (.iload_n 2, 1) := by decide +kernel
theorem dX2_missing_5 : decode cX2_missing 5 = .ok (.aload_n 0, 1) := by decide +kernel
theorem dX2_missing_6 : decode cX2_missing 6 = .ok (.getfield 25, 3) := by decide +kernel
theorem dX2_missing_9 : decode cX2_missing 9 = .ok (.if_icmp .ge 29, 3) := by decide +kernel
theorem dX2_missing_12 : decode cX2_missing 12 = .ok (.iload_n 1, 1) := by decide +kernel
theorem dX2_missing_13 : decode cX2_missing 13 = .ok (.aload_n 0, 1) := by decide +kernel
theorem dX2_missing_14 : decode cX2_missing 14 = .ok (.getfield 9, 3) := by decide +kernel
theorem dX2_missing_17 : decode cX2_missing 17 = .ok (.iload_n 2, 1) := by decide +kernel
theorem dX2_missing_18 : decode cX2_missing 18 = .ok (.laload, 1) := by decide +kernel
theorem dX2_missing_19 : decode cX2_missing 19 = .ok (.invokestatic 49, 3) := by decide +kernel
theorem dX2_missing_22 : decode cX2_missing 22 = .ok (.ifCond .eq 7, 3) := by decide +kernel
theorem dX2_missing_25 : decode cX2_missing 25 = .ok (.iconst 1, 1) := by decide +kernel
theorem dX2_missing_26 : decode cX2_missing 26 = .ok (.goto 4, 3) := by decide +kernel
theorem dX2_missing_29 : decode cX2_missing 29 = .ok (.iconst 0, 1) := by decide +kernel
theorem dX2_missing_30 : decode cX2_missing 30 = .ok (.iadd, 1) := by decide +kernel
theorem dX2_missing_31 : decode cX2_missing 31 = .ok (.istore_n 1, 1) := by decide +kernel
theorem dX2_missing_32 : decode cX2_missing 32 = .ok (.iinc 2 1, 3) := by decide +kernel
theorem dX2_missing_35 : decode cX2_missing 35 = .ok (.goto (-31), 3) := by decide +kernel
theorem dX2_missing_38 : decode cX2_missing 38 = .ok (.iload_n 1, 1) := by decide +kernel
theorem dX2_missing_39 : decode cX2_missing 39 = .ok (.ireturn, 1) := by decide +kernel
theorem dX2_minusZeros_0 : decode cX2_minusZeros 0 = .ok (.iconst 0, 1) := by decide +kernel
theorem dX2_minusZeros_1 : decode cX2_minusZeros 1 = .ok (.istore_n 1, 1) := by decide +kernel
theorem dX2_minusZeros_2 : decode cX2_minusZeros 2 = .ok (.iconst 0, 1) := by decide +kernel
theorem dX2_minusZeros_3 : decode cX2_minusZeros 3 = .ok (.istore_n 2, 1) := by decide +kernel
theorem dX2_minusZeros_4 : decode cX2_minusZeros 4 = .ok (.iload_n 2, 1) := by decide +kernel
theorem dX2_minusZeros_5 : decode cX2_minusZeros 5 = .ok (.aload_n 0, 1) := by decide +kernel
theorem dX2_minusZeros_6 : decode cX2_minusZeros 6 = .ok (.getfield 25, 3) := by decide +kernel
theorem dX2_minusZeros_9 : decode cX2_minusZeros 9 = .ok (.if_icmp .ge 30, 3) := by decide +kernel
theorem dX2_minusZeros_12 : decode cX2_minusZeros 12 = .ok (.iload_n 1, 1) := by decide +kernel
theorem dX2_minusZeros_13 : decode cX2_minusZeros 13 = .ok (.aload_n 0, 1) := by decide +kernel
theorem dX2_minusZeros_14 : decode cX2_minusZeros 14 = .ok (.getfield 9, 3) := by decide +kernel
theorem dX2_minusZeros_17 : decode cX2_minusZeros 17 = .ok (.iload_n 2, 1) := by decide +kernel
theorem dX2_minusZeros_18 : decode cX2_minusZeros 18 = .ok (.laload, 1) := by decide +kernel
theorem dX2_minusZeros_19 : decode cX2_minusZeros 19 = .ok (.ldc2_w 56, 3) := by decide +kernel
theorem dX2_minusZeros_22 : decode cX2_minusZeros 22 = .ok (.lcmp, 1) := by decide +kernel
theorem dX2_minusZeros_23 : decode cX2_minusZeros 23 = .ok (.ifCond .ne 7, 3) := by decide +kernel
theorem dX2_minusZeros_26 : decode cX2_minusZeros 26 = .ok (.iconst 1, 1) := by decide +kernel
theorem dX2_minusZeros_27 : decode cX2_minusZeros 27 = .ok (.goto 4, 3) := by decide +kernel
theorem dX2_minusZeros_30 : decode cX2_minusZeros 30 = .ok (.iconst 0, 1) := by decide +kernel
theorem dX2_minusZeros_31 : decode cX2_minusZeros 31 = .ok (.iadd, 1) := by decide +kernel
theorem dX2_minusZeros_32 : decode cX2_minusZeros 32 = .ok (.istore_n 1, 1) := by decide +kernel
theorem dX2_minusZeros_33 : decode cX2_minusZeros 33 = .ok (.iinc 2 1, 3) := by decide +kernel
theorem dX2_minusZeros_36 : decode cX2_minusZeros 36 = .ok (.goto (-32), 3) := by decide +kernel
theorem dX2_minusZeros_39 : decode cX2_minusZeros 39 = .ok (.iload_n 1, 1) := by decide +kernel
theorem dX2_minusZeros_40 : decode cX2_minusZeros 40 = .ok (.ireturn, 1) := by decide +kernel
theorem dX3_init_0 : decode cX3_init 0 = .ok (.aload_n 0, 1) := by decide +kernel
theorem dX3_init_1 : decode cX3_init 1 = .ok (.invokespecial 3, 3) := by decide +kernel
theorem dX3_init_4 : decode cX3_init 4 = .ok (.aload_n 0, 1) := by decide +kernel
theorem dX3_init_5 : decode cX3_init 5 = .ok (.bipush 15, 2) := by decide +kernel
theorem dX3_init_7 : decode cX3_init 7 = .ok (.newarray .double, 2) := by decide +kernel
theorem dX3_init_9 : decode cX3_init 9 = .ok (.putfield 9, 3) := by decide +kernel
theorem dX3_init_12 : decode cX3_init 12 = .ok (.aload_n 0, 1) := by decide +kernel
theorem dX3_init_13 : decode cX3_init 13 = .ok (.bipush 15, 2) := by decide +kernel
theorem dX3_init_15 : decode cX3_init 15 = .ok (.newarray .double, 2) := by decide +kernel
theorem dX3_init_17 : decode cX3_init 17 = .ok (.putfield 15, 3) := by decide +kernel
theorem dX3_init_20 : decode cX3_init 20 = .ok (.aload_n 0, 1) := by decide +kernel
theorem dX3_init_21 : decode cX3_init 21 = .ok (.bipush 10, 2) := by decide +kernel
theorem dX3_init_23 : decode cX3_init 23 = .ok (.newarray .double, 2) := by decide +kernel
theorem dX3_init_25 : decode cX3_init 25 = .ok (.putfield 18, 3) := by decide +kernel
theorem dX3_init_28 : decode cX3_init 28 = .ok (.aload_n 0, 1) := by decide +kernel
theorem dX3_init_29 : decode cX3_init 29 = .ok (.bipush 10, 2) := by decide +kernel
theorem dX3_init_31 : decode cX3_init 31 = .ok (.newarray .double, 2) := by decide +kernel
theorem dX3_init_33 : decode cX3_init 33 = .ok (.putfield 21, 3) := by decide +kernel
theorem dX3_init_36 : decode cX3_init 36 = .ok (.aload_n 0, 1) := by decide +kernel
theorem dX3_init_37 : decode cX3_init 37 = .ok (.getfield 9, 3) := by decide +kernel
theorem dX3_init_40 : decode cX3_init 40 = .ok (.iconst 0, 1) := by decide +kernel
theorem dX3_init_41 : decode cX3_init 41 = .ok (.dconst 1, 1) := by decide +kernel
theorem dX3_init_42 : decode cX3_init 42 = .ok (.dastore, 1) := by decide +kernel
theorem dX3_init_43 : decode cX3_init 43 = .ok (.aload_n 0, 1) := by decide +kernel
theorem dX3_init_44 : decode cX3_init 44 = .ok (.getfield 15, 3) := by decide +kernel
theorem dX3_init_47 : decode cX3_init 47 = .ok (.iconst 0, 1) := by decide +kernel
theorem dX3_init_48 : decode cX3_init 48 = .ok (.dconst 1, 1) := by decide +kernel
theorem dX3_init_49 : decode cX3_init 49 = .ok (.dastore, 1) := by decide +kernel
theorem dX3_init_50 : decode cX3_init 50 = .ok (.iconst 1, 1) := by decide +kernel
theorem dX3_init_51 : decode cX3_init 51 = .ok (.istore_n 1, 1) := by decide +kernel
theorem dX3_init_52 : decode cX3_init 52 = .ok (.iload_n 1, 1) := by decide +kernel
theorem dX3_init_53 : decode cX3_init 53 = .ok (.bipush 15, 2) := by decide +kernel
theorem dX3_init_55 : decode cX3_init 55 = .ok (.if_icmp .ge 41, 3) := by decide +kernel
theorem dX3_init_58 : decode cX3_init 58 = .ok (.aload_n 0, 1) := by decide +kernel
theorem dX3_init_59 : decode cX3_init 59 = .ok (.getfield 9, 3) := by decide +kernel
theorem dX3_init_62 : decode cX3_init 62 = .ok (.iload_n 1, 1) := by decide +kernel
theorem dX3_init_63 : decode cX3_init 63 = .ok (.aload_n 0, 1) := by decide +kernel
theorem dX3_init_64 : decode cX3_init 64 = .ok (.getfield 9, 3) := by decide +kernel
theorem dX3_init_67 : decode cX3_init 67 = .ok (.iload_n 1, 1) := by decide +kernel
theorem dX3_init_68 : decode cX3_init 68 = .ok (.iconst 1, 1) := by decide +kernel
theorem dX3_init_69 : decode cX3_init 69 = .ok (.isub, 1) := by decide +kernel
theorem dX3_init_70 : decode cX3_init 70 = .ok (.daload, 1) := by decide +kernel
theorem dX3_init_71 : decode cX3_init 71 = .ok (.ldc2_w 24, 3) := by decide +kernel
theorem dX3_init_74 : decode cX3_init 74 = .ok (.dmul, 1) := by decide +kernel
theorem dX3_init_75 : decode cX3_init 75 = .ok (.dastore, 1) := by decide +kernel
theorem dX3_init_76 : decode cX3_init 76 = .ok (.aload_n 0, 1) := by decide +kernel
theorem dX3_init_77 : decode cX3_init 77 = .ok (.getfield 15, 3) := by decide +kernel
theorem dX3_init_80 : decode cX3_init 80 = .ok (.iload_n 1, 1) := by decide +kernel
theorem dX3_init_81 : decode cX3_init 81 = .ok (.dconst 1, 1) := by decide +kernel
theorem dX3_init_82 : decode cX3_init 82 = .ok (.aload_n 0, 1) := by decide +kernel
theorem dX3_init_83 : decode cX3_init 83 = .ok (.getfield 9, 3) := by decide +kernel
theorem dX3_init_86 : decode cX3_init 86 = .ok (.iload_n 1, 1) := by decide +kernel
theorem dX3_init_87 : decode cX3_init 87 = .ok (.daload, 1) := by decide +kernel
theorem dX3_init_88 : decode cX3_init 88 = .ok (.ddiv, 1) := by decide +kernel
theorem dX3_init_89 : decode cX3_init 89 = .ok (.dastore, 1) := by decide +kernel
theorem dX3_init_90 : decode cX3_init 90 = .ok (.iinc 1 1, 3) := by decide +kernel
theorem dX3_init_93 : decode cX3_init 93 = .ok (.goto (-41), 3) := by decide +kernel
theorem dX3_init_96 : decode cX3_init 96 = .ok (.aload_n 0, 1) := by decide +kernel
theorem dX3_init_97 : decode cX3_init 97 = .ok (.getfield 18, 3) := by decide +kernel
theorem dX3_init_100 : decode cX3_init 100 = .ok (.iconst 0, 1) := by decide +kernel
theorem dX3_init_101 : decode cX3_init 101 = .ok (.ldc2_w 26, 3) := by decide +kernel
theorem dX3_init_104 : decode cX3_init 104 = .ok (.dastore, 1) := by decide +kernel
theorem dX3_init_105 : decode cX3_init 105 = .ok (.aload_n 0, 1) := by decide +kernel
theorem dX3_init_106 : decode cX3_init 106 = .ok (.getfield 21, 3) := by decide +kernel
theorem dX3_init_109 : decode cX3_init 109 = .ok (.iconst 0, 1) := by decide +kernel
theorem dX3_init_110 : decode cX3_init 110 = .ok (.ldc2_w 28, 3) := by decide +kernel
theorem dX3_init_113 : decode cX3_init 113 = .ok (.dastore, 1) := by decide +kernel
theorem dX3_init_114 : decode cX3_init 114 = .ok (.iconst 1, 1) := by decide +kernel
theorem dX3_init_115 : decode cX3_init 115 = .ok (.istore_n 1, 1) := by decide +kernel
theorem dX3_init_116 : decode cX3_init 116 = .ok (.iload_n 1, 1) := by decide +kernel
theorem dX3_init_117 : decode cX3_init 117 = .ok (.bipush 10, 2) := by decide +kernel
theorem dX3_init_119 : decode cX3_init 119 = .ok (.if_icmp .ge 55, 3) := by decide +kernel
theorem dX3_init_122 : decode cX3_init 122 = .ok (.aload_n 0, 1) := by decide +kernel
theorem dX3_init_123 : decode cX3_init 123 = .ok (.getfield 18, 3) := by decide +kernel
theorem dX3_init_126 : decode cX3_init 126 = .ok (.iload_n 1, 1) := by decide +kernel
theorem dX3_init_127 : decode cX3_init 127 = .ok (.aload_n 0, 1) := by decide +kernel
theorem dX3_init_128 : decode cX3_init 128 = .ok (.getfield 18, 3) := by decide +kernel
theorem dX3_init_131 : decode cX3_init 131 = .ok (.iload_n 1, 1) := by decide +kernel
theorem dX3_init_132 : decode cX3_init 132 = .ok (.iconst 1, 1) := by decide +kernel
theorem dX3_init_133 : decode cX3_init 133 = .ok (.isub, 1) := by decide +kernel
theorem dX3_init_134 : decode cX3_init 134 = .ok (.daload, 1) := by decide +kernel
theorem dX3_init_135 : decode cX3_init 135 = .ok (.aload_n 0, 1) := by decide +kernel
theorem dX3_init_136 : decode cX3_init 136 = .ok (.getfield 18, 3) := by decide +kernel
theorem dX3_init_139 : decode cX3_init 139 = .ok (.iload_n 1, 1) := by decide +kernel
theorem dX3_init_140 : decode cX3_init 140 = .ok (.iconst 1, 1) := by decide +kernel
theorem dX3_init_141 : decode cX3_init 141 = .ok (.isub, 1) := by decide +kernel
theorem dX3_init_142 : decode cX3_init 142 = .ok (.daload, 1) := by decide +kernel
theorem dX3_init_143 : decode cX3_init 143 = .ok (.dmul, 1) := by decide +kernel
theorem dX3_init_144 : decode cX3_init 144 = .ok (.dastore, 1) := by decide +kernel
theorem dX3_init_145 : decode cX3_init 145 = .ok (.aload_n 0, 1) := by decide +kernel
theorem dX3_init_146 : decode cX3_init 146 = .ok (.getfield 21, 3) := by decide +kernel
theorem dX3_init_149 : decode cX3_init 149 = .ok (.iload_n 1, 1) := by decide +kernel
theorem dX3_init_150 : decode cX3_init 150 = .ok (.aload_n 0, 1) := by decide +kernel
theorem dX3_init_151 : decode cX3_init 151 = .ok (.getfield 21, 3) := by decide +kernel
theorem dX3_init_154 : decode cX3_init 154 = .ok (.iload_n 1, 1) := by decide +kernel
theorem dX3_init_155 : decode cX3_init 155 = .ok (.iconst 1, 1) := by decide +kernel
theorem dX3_init_156 : decode cX3_init 156 = .ok (.isub, 1) := by decide +kernel
theorem dX3_init_157 : decode cX3_init 157 = .ok (.daload, 1) := by decide +kernel
theorem dX3_init_158 : decode cX3_init 158 = .ok (.aload_n 0, 1) := by decide +kernel
theorem dX3_init_159 : decode cX3_init 159 = .ok (.getfield 21, 3) := by decide +kernel
theorem dX3_init_162 : decode cX3_init 162 = .ok (.iload_n 1, 1) := by decide +kernel
theorem dX3_init_163 : decode cX3_init 163 = .ok (.iconst 1, 1) := by decide +kernel
theorem dX3_init_164 : decode cX3_init 164 = .ok (.isub, 1) := by decide +kernel
theorem dX3_init_165 : decode cX3_init 165 = .ok (.daload, 1) := by decide +kernel
theorem dX3_init_166 : decode cX3_init 166 = .ok (.dmul, 1) := by decide +kernel
theorem dX3_init_167 : decode cX3_init 167 = .ok (.dastore, 1) := by decide +kernel
theorem dX3_init_168 : decode cX3_init 168 = .ok (.iinc 1 1, 3) := by decide +kernel
theorem dX3_init_171 : decode cX3_init 171 = .ok (.goto (-55), 3) := by decide +kernel
theorem dX3_init_174 : decode cX3_init 174 = .ok (.return_, 1) := by decide +kernel
theorem dX3_scaled_0 : decode cX3_scaled 0 = .ok (.iload_n 3, 1) := by decide +kernel
theorem dX3_scaled_1 : decode cX3_scaled 1 = .ok (.ifCond .ge 10, 3) := by decide +kernel
theorem dX3_scaled_4 : decode cX3_scaled 4 = .ok (.aload_n 0, 1) := by decide +kernel
theorem dX3_scaled_5 : decode cX3_scaled 5 = .ok (.getfield 21, 3) := by decide +kernel
theorem dX3_scaled_8 : decode cX3_scaled 8 = .ok (.goto 7, 3) := by decide +kernel
theorem dX3_scaled_11 : decode cX3_scaled 11 = .ok (.aload_n 0, 1) := by decide +kernel
theorem dX3_scaled_12 : decode cX3_scaled 12 = .ok (.getfield 18, 3) := by decide +kernel
theorem dX3_scaled_15 : decode cX3_scaled 15 = .ok (.astore 4, 2) := by decide +kernel
theorem dX3_scaled_17 : decode cX3_scaled 17 = .ok (.dload_n 1, 1) := by decide +kernel
theorem dX3_scaled_18 : decode cX3_scaled 18 = .ok (.dstore 5, 2) := by decide +kernel
theorem dX3_scaled_20 : decode cX3_scaled 20 = .ok (.iload_n 3, 1) := by decide +kernel
theorem dX3_scaled_21 : decode cX3_scaled 21 = .ok (.ifCond .ge 8, 3) := by decide +kernel
theorem dX3_scaled_24 : decode cX3_scaled 24 = .ok (.iload_n 3, 1) := by decide +kernel
theorem dX3_scaled_25 : decode cX3_scaled 25 = .ok (.ineg, 1) := by decide +kernel
theorem dX3_scaled_26 : decode cX3_scaled 26 = .ok (.goto 4, 3) := by decide +kernel
theorem dX3_scaled_29 : decode cX3_scaled 29 = .ok (.iload_n 3, 1) := by decide +kernel
theorem dX3_scaled_30 : decode cX3_scaled 30 = .ok (.istore 7, 2) := by decide +kernel
theorem dX3_scaled_32 : decode cX3_scaled 32 = .ok (.bipush 9, 2) := by decide +kernel
theorem dX3_scaled_34 : decode cX3_scaled 34 = .ok (.istore 8, 2) := by decide +kernel
theorem dX3_scaled_36 : decode cX3_scaled 36 = .ok (.iload 8, 2) := by decide +kernel
theorem dX3_scaled_38 : decode cX3_scaled 38 = .ok (.ifCond .lt 42, 3) := by decide +kernel
theorem dX3_scaled_41 : decode cX3_scaled 41 = .ok (.iconst 1, 1) := by decide +kernel
theorem dX3_scaled_42 : decode cX3_scaled 42 = .ok (.iload 8, 2) := by decide +kernel
theorem dX3_scaled_44 : decode cX3_scaled 44 = .ok (.ishl, 1) := by decide +kernel
theorem dX3_scaled_45 : decode cX3_scaled 45 = .ok (.istore 9, 2) := by decide +kernel
theorem dX3_scaled_47 : decode cX3_scaled 47 = .ok (.iload 7, 2) := by decide +kernel
theorem dX3_scaled_49 : decode cX3_scaled 49 = .ok (.iload 9, 2) := by decide +kernel
theorem dX3_scaled_51 : decode cX3_scaled 51 = .ok (.if_icmp .lt 23, 3) := by decide +kernel
theorem dX3_scaled_54 : decode cX3_scaled 54 = .ok (.dload 5, 2) := by decide +kernel
theorem dX3_scaled_56 : decode cX3_scaled 56 = .ok (.aload 4, 2) := by decide +kernel
theorem dX3_scaled_58 : decode cX3_scaled 58 = .ok (.iload 8, 2) := by decide +kernel
theorem dX3_scaled_60 : decode cX3_scaled 60 = .ok (.daload, 1) := by decide +kernel
theorem dX3_scaled_61 : decode cX3_scaled 61 = .ok (.dmul, 1) := by decide +kernel
theorem dX3_scaled_62 : decode cX3_scaled 62 = .ok (.dstore 5, 2) := by decide +kernel
theorem dX3_scaled_64 : decode cX3_scaled 64 = .ok (.iload 7, 2) := by decide +kernel
theorem dX3_scaled_66 : decode cX3_scaled 66 = .ok (.iload 9, 2) := by decide +kernel
theorem dX3_scaled_68 : decode cX3_scaled 68 = .ok (.isub, 1) := by decide +kernel
theorem dX3_scaled_69 : decode cX3_scaled 69 = .ok (.istore 7, 2) := by decide +kernel
theorem dX3_scaled_71 : decode cX3_scaled 71 = .ok (.goto (-24), 3) := by decide +kernel
theorem dX3_scaled_74 : decode cX3_scaled 74 = .ok (.iinc 8 (-1), 3) := by decide +kernel
theorem dX3_scaled_77 : decode cX3_scaled 77 = .ok (.goto (-41), 3) := by decide +kernel
theorem dX3_scaled_80 : decode cX3_scaled 80 = .ok (.dload 5, 2) := by decide +kernel
theorem dX3_scaled_82 : decode cX3_scaled 82 = .ok (.dreturn, 1) := by decide +kernel
theorem dX3_numberOf_0 : decode cX3_numberOf 0 = .ok (.lload_n 1, 1) := by decide +kernel
theorem dX3_numberOf_1 : decode cX3_numberOf 1 = .ok (.bipush 52, 2) := by decide +kernel
theorem dX3_numberOf_3 : decode cX3_numberOf 3 = .ok (.lushr, 1) := by decide +kernel
theorem dX3_numberOf_4 : decode cX3_numberOf 4 = .ok (.l2i, 1) := by decide +kernel
theorem dX3_numberOf_5 : decode cX3_numberOf 5 = .ok (.sipush 2047, 3) := by decide +kernel
theorem dX3_numberOf_8 : decode cX3_numberOf 8 = .ok (.iand, 1) := by decide +kernel
theorem dX3_numberOf_9 : decode cX3_numberOf 9 = .ok (.istore_n 3, 1) := by decide +kernel
theorem dX3_numberOf_10 : decode cX3_numberOf 10 = .ok (.lload_n 1, 1) := by decide +kernel
theorem dX3_numberOf_11 : decode cX3_numberOf 11 = .ok (.ldc2_w 30, 3) := by decide +kernel
theorem dX3_numberOf_14 : decode cX3_numberOf 14 = .ok (.land, 1) := by decide +kernel
theorem dX3_numberOf_15 : decode cX3_numberOf 15 = .ok (.lstore 4, 2) := by decide +kernel
theorem dX3_numberOf_17 : decode cX3_numberOf 17 = .ok (.iload_n 3, 1) := by decide +kernel
theorem dX3_numberOf_18 : decode cX3_numberOf 18 = .ok (.ifCond .ne 16, 3) := by decide +kernel
theorem dX3_numberOf_21 : decode cX3_numberOf 21 = .ok (.aload_n 0, 1) := by decide +kernel
theorem dX3_numberOf_22 : decode cX3_numberOf 22 = .ok (.lload 4, 2) := by decide +kernel
theorem dX3_numberOf_24 : decode cX3_numberOf 24 = .ok (.l2d, 1) := by decide +kernel
theorem dX3_numberOf_25 : decode cX3_numberOf 25 = .ok (.sipush (-1074), 3) := by decide +kernel
theorem dX3_numberOf_28 : decode cX3_numberOf 28 = .ok (.invokevirtual 32, 3) := by decide +kernel
theorem dX3_numberOf_31 : decode cX3_numberOf 31 = .ok (.goto 21, 3) := by decide +kernel
theorem dX3_numberOf_34 : decode cX3_numberOf 34 = .ok (.aload_n 0, 1) := by decide +kernel
theorem dX3_numberOf_35 : decode cX3_numberOf 35 = .ok (.lload 4, 2) := by decide +kernel
theorem dX3_numberOf_37 : decode cX3_numberOf 37 = .ok (.ldc2_w 30, 3) := by decide +kernel
theorem dX3_numberOf_40 : decode cX3_numberOf 40 = .ok (.ladd, 1) := by decide +kernel
theorem dX3_numberOf_41 : decode cX3_numberOf 41 = .ok (.lconst 1, 1) := by decide +kernel
theorem dX3_numberOf_42 : decode cX3_numberOf 42 = .ok (.ladd, 1) := by decide +kernel
theorem dX3_numberOf_43 : decode cX3_numberOf 43 = .ok (.l2d, 1) := by decide +kernel
theorem dX3_numberOf_44 : decode cX3_numberOf 44 = .ok (.iload_n 3, 1) := by decide +kernel
theorem dX3_numberOf_45 : decode cX3_numberOf 45 = .ok (.sipush 1075, 3) := by decide +kernel
theorem dX3_numberOf_48 : decode cX3_numberOf 48 = .ok (.isub, 1) := by decide +kernel
theorem dX3_numberOf_49 : decode cX3_numberOf 49 = .ok (.invokevirtual 32, 3) := by decide +kernel
theorem dX3_numberOf_52 : decode cX3_numberOf 52 = .ok (.dstore 6, 2) := by decide +kernel
theorem dX3_numberOf_54 : decode cX3_numberOf 54 = .ok (.lload_n 1, 1) := by decide +kernel
theorem dX3_numberOf_55 : decode cX3_numberOf 55 = .ok (.lconst 0, 1) := by decide +kernel
theorem dX3_numberOf_56 : decode cX3_numberOf 56 = .ok (.lcmp, 1) := by decide +kernel
theorem dX3_numberOf_57 : decode cX3_numberOf 57 = .ok (.ifCond .ge 16, 3) := by decide +kernel
theorem dX3_numberOf_60 : decode cX3_numberOf 60 = .ok (.dload 6, 2) := by decide +kernel
theorem dX3_numberOf_62 : decode cX3_numberOf 62 = .ok (.dconst 0, 1) := by decide +kernel
theorem dX3_numberOf_63 : decode cX3_numberOf 63 = .ok (.dcmp .l, 1) := by decide +kernel
theorem dX3_numberOf_64 : decode cX3_numberOf 64 = .ok (.ifCond .le 9, 3) := by decide +kernel
theorem dX3_numberOf_67 : decode cX3_numberOf 67 = .ok (.dload 6, 2) := by decide +kernel
theorem dX3_numberOf_69 : decode cX3_numberOf 69 = .ok (.dneg, 1) := by decide +kernel
theorem dX3_numberOf_70 : decode cX3_numberOf 70 = .ok (.goto 5, 3) := by decide +kernel
theorem dX3_numberOf_73 : decode cX3_numberOf 73 = .ok (.dload 6, 2) := by decide +kernel
theorem dX3_numberOf_75 : decode cX3_numberOf 75 = .ok (.dreturn, 1) := by decide +kernel
theorem dX3_bitsOf_0 : decode cX3_bitsOf 0 = .ok (.dload_n 1, 1) := by decide +kernel
theorem dX3_bitsOf_1 : decode cX3_bitsOf 1 = .ok (.dconst 0, 1) := by decide +kernel
theorem dX3_bitsOf_2 : decode cX3_bitsOf 2 = .ok (.dcmp .g, 1) := by decide +kernel
theorem dX3_bitsOf_3 : decode cX3_bitsOf 3 = .ok (.ifCond .ge 9, 3) := by decide +kernel
theorem dX3_bitsOf_6 : decode cX3_bitsOf 6 = .ok (.ldc2_w 36, 3) := by decide +kernel
theorem dX3_bitsOf_9 : decode cX3_bitsOf 9 = .ok (.goto 4, 3) := by decide +kernel
theorem dX3_bitsOf_12 : decode cX3_bitsOf 12 = .ok (.lconst 0, 1) := by decide +kernel
theorem dX3_bitsOf_13 : decode cX3_bitsOf 13 = .ok (.lstore_n 3, 1) := by decide +kernel
theorem dX3_bitsOf_14 : decode cX3_bitsOf 14 = .ok (.dload_n 1, 1) := by decide +kernel
theorem dX3_bitsOf_15 : decode cX3_bitsOf 15 = .ok (.dconst 0, 1) := by decide +kernel
theorem dX3_bitsOf_16 : decode cX3_bitsOf 16 = .ok (.dcmp .g, 1) := by decide +kernel
theorem dX3_bitsOf_17 : decode cX3_bitsOf 17 = .ok (.ifCond .ge 8, 3) := by decide +kernel
theorem dX3_bitsOf_20 : decode cX3_bitsOf 20 = .ok (.dload_n 1, 1) := by decide +kernel
theorem dX3_bitsOf_21 : decode cX3_bitsOf 21 = .ok (.dneg, 1) := by decide +kernel
theorem dX3_bitsOf_22 : decode cX3_bitsOf 22 = .ok (.goto 4, 3) := by decide +kernel
theorem dX3_bitsOf_25 : decode cX3_bitsOf 25 = .ok (.dload_n 1, 1) := by decide +kernel
theorem dX3_bitsOf_26 : decode cX3_bitsOf 26 = .ok (.dstore 5, 2) := by decide +kernel
theorem dX3_bitsOf_28 : decode cX3_bitsOf 28 = .ok (.dload 5, 2) := by decide +kernel
theorem dX3_bitsOf_30 : decode cX3_bitsOf 30 = .ok (.ldc2_w 38, 3) := by decide +kernel
theorem dX3_bitsOf_33 : decode cX3_bitsOf 33 = .ok (.dcmp .l, 1) := by decide +kernel
theorem dX3_bitsOf_34 : decode cX3_bitsOf 34 = .ok (.ifCond .le 9, 3) := by decide +kernel
theorem dX3_bitsOf_37 : decode cX3_bitsOf 37 = .ok (.lload_n 3, 1) := by decide +kernel
theorem dX3_bitsOf_38 : decode cX3_bitsOf 38 = .ok (.ldc2_w 40, 3) := by decide +kernel
theorem dX3_bitsOf_41 : decode cX3_bitsOf 41 = .ok (.lor, 1) := by decide +kernel
theorem dX3_bitsOf_42 : decode cX3_bitsOf 42 = .ok (.lreturn, 1) := by decide +kernel
theorem dX3_bitsOf_43 : decode cX3_bitsOf 43 = .ok (.dload 5, 2) := by decide +kernel
theorem dX3_bitsOf_45 : decode cX3_bitsOf 45 = .ok (.ldc2_w 42, 3) := by decide +kernel
theorem dX3_bitsOf_48 : decode cX3_bitsOf 48 = .ok (.dcmp .g, 1) := by decide +kernel
theorem dX3_bitsOf_49 : decode cX3_bitsOf 49 = .ok (.ifCond .ge 16, 3) := by decide +kernel
theorem dX3_bitsOf_52 : decode cX3_bitsOf 52 = .ok (.lload_n 3, 1) := by decide +kernel
theorem dX3_bitsOf_53 : decode cX3_bitsOf 53 = .ok (.aload_n 0, 1) := by decide +kernel
theorem dX3_bitsOf_54 : decode cX3_bitsOf 54 = .ok (.dload 5, 2) := by decide +kernel
theorem dX3_bitsOf_56 : decode cX3_bitsOf 56 = .ok (.sipush 1074, 3) := by decide +kernel
theorem dX3_bitsOf_59 : decode cX3_bitsOf 59 = .ok (.invokevirtual 32, 3) := by decide +kernel
theorem dX3_bitsOf_62 : decode cX3_bitsOf 62 = .ok (.d2l, 1) := by decide +kernel
theorem dX3_bitsOf_63 : decode cX3_bitsOf 63 = .ok (.lor, 1) := by decide +kernel
theorem dX3_bitsOf_64 : decode cX3_bitsOf 64 = .ok (.lreturn, 1) := by decide +kernel
theorem dX3_bitsOf_65 : decode cX3_bitsOf 65 = .ok (.iconst 0, 1) := by decide +kernel
theorem dX3_bitsOf_66 : decode cX3_bitsOf 66 = .ok (.istore 7, 2) := by decide +kernel
theorem dX3_bitsOf_68 : decode cX3_bitsOf 68 = .ok (.bipush 9, 2) := by decide +kernel
theorem dX3_bitsOf_70 : decode cX3_bitsOf 70 = .ok (.istore 8, 2) := by decide +kernel
theorem dX3_bitsOf_72 : decode cX3_bitsOf 72 = .ok (.iload 8, 2) := by decide +kernel
theorem dX3_bitsOf_74 : decode cX3_bitsOf 74 = .ok (.ifCond .lt 84, 3) := by decide +kernel
theorem dX3_bitsOf_77 : decode cX3_bitsOf 77 = .ok (.dload 5, 2) := by decide +kernel
theorem dX3_bitsOf_79 : decode cX3_bitsOf 79 = .ok (.aload_n 0, 1) := by decide +kernel
theorem dX3_bitsOf_80 : decode cX3_bitsOf 80 = .ok (.getfield 18, 3) := by decide +kernel
theorem dX3_bitsOf_83 : decode cX3_bitsOf 83 = .ok (.iload 8, 2) := by decide +kernel
theorem dX3_bitsOf_85 : decode cX3_bitsOf 85 = .ok (.daload, 1) := by decide +kernel
theorem dX3_bitsOf_86 : decode cX3_bitsOf 86 = .ok (.dcmp .l, 1) := by decide +kernel
theorem dX3_bitsOf_87 : decode cX3_bitsOf 87 = .ok (.ifCond .lt 27, 3) := by decide +kernel
theorem dX3_bitsOf_90 : decode cX3_bitsOf 90 = .ok (.dload 5, 2) := by decide +kernel
theorem dX3_bitsOf_92 : decode cX3_bitsOf 92 = .ok (.aload_n 0, 1) := by decide +kernel
theorem dX3_bitsOf_93 : decode cX3_bitsOf 93 = .ok (.getfield 21, 3) := by decide +kernel
theorem dX3_bitsOf_96 : decode cX3_bitsOf 96 = .ok (.iload 8, 2) := by decide +kernel
theorem dX3_bitsOf_98 : decode cX3_bitsOf 98 = .ok (.daload, 1) := by decide +kernel
theorem dX3_bitsOf_99 : decode cX3_bitsOf 99 = .ok (.dmul, 1) := by decide +kernel
theorem dX3_bitsOf_100 : decode cX3_bitsOf 100 = .ok (.dstore 5, 2) := by decide +kernel
theorem dX3_bitsOf_102 : decode cX3_bitsOf 102 = .ok (.iload 7, 2) := by decide +kernel
theorem dX3_bitsOf_104 : decode cX3_bitsOf 104 = .ok (.iconst 1, 1) := by decide +kernel
theorem dX3_bitsOf_105 : decode cX3_bitsOf 105 = .ok (.iload 8, 2) := by decide +kernel
theorem dX3_bitsOf_107 : decode cX3_bitsOf 107 = .ok (.ishl, 1) := by decide +kernel
theorem dX3_bitsOf_108 : decode cX3_bitsOf 108 = .ok (.iadd, 1) := by decide +kernel
theorem dX3_bitsOf_109 : decode cX3_bitsOf 109 = .ok (.istore 7, 2) := by decide +kernel
theorem dX3_bitsOf_111 : decode cX3_bitsOf 111 = .ok (.goto 41, 3) := by decide +kernel
theorem dX3_bitsOf_114 : decode cX3_bitsOf 114 = .ok (.dload 5, 2) := by decide +kernel
theorem dX3_bitsOf_116 : decode cX3_bitsOf 116 = .ok (.ldc2_w 26, 3) := by decide +kernel
theorem dX3_bitsOf_119 : decode cX3_bitsOf 119 = .ok (.aload_n 0, 1) := by decide +kernel
theorem dX3_bitsOf_120 : decode cX3_bitsOf 120 = .ok (.getfield 21, 3) := by decide +kernel
theorem dX3_bitsOf_123 : decode cX3_bitsOf 123 = .ok (.iload 8, 2) := by decide +kernel
theorem dX3_bitsOf_125 : decode cX3_bitsOf 125 = .ok (.daload, 1) := by decide +kernel
theorem dX3_bitsOf_126 : decode cX3_bitsOf 126 = .ok (.dmul, 1) := by decide +kernel
theorem dX3_bitsOf_127 : decode cX3_bitsOf 127 = .ok (.dcmp .g, 1) := by decide +kernel
theorem dX3_bitsOf_128 : decode cX3_bitsOf 128 = .ok (.ifCond .ge 24, 3) := by decide +kernel
theorem dX3_bitsOf_131 : decode cX3_bitsOf 131 = .ok (.dload 5, 2) := by decide +kernel
theorem dX3_bitsOf_133 : decode cX3_bitsOf 133 = .ok (.aload_n 0, 1) := by decide +kernel
theorem dX3_bitsOf_134 : decode cX3_bitsOf 134 = .ok (.getfield 18, 3) := by decide +kernel
theorem dX3_bitsOf_137 : decode cX3_bitsOf 137 = .ok (.iload 8, 2) := by decide +kernel
theorem dX3_bitsOf_139 : decode cX3_bitsOf 139 = .ok (.daload, 1) := by decide +kernel
theorem dX3_bitsOf_140 : decode cX3_bitsOf 140 = .ok (.dmul, 1) := by decide +kernel
theorem dX3_bitsOf_141 : decode cX3_bitsOf 141 = .ok (.dstore 5, 2) := by decide +kernel
theorem dX3_bitsOf_143 : decode cX3_bitsOf 143 = .ok (.iload 7, 2) := by decide +kernel
theorem dX3_bitsOf_145 : decode cX3_bitsOf 145 = .ok (.iconst 1, 1) := by decide +kernel
theorem dX3_bitsOf_146 : decode cX3_bitsOf 146 = .ok (.iload 8, 2) := by decide +kernel
theorem dX3_bitsOf_148 : decode cX3_bitsOf 148 = .ok (.ishl, 1) := by decide +kernel
theorem dX3_bitsOf_149 : decode cX3_bitsOf 149 = .ok (.isub, 1) := by decide +kernel
theorem dX3_bitsOf_150 : decode cX3_bitsOf 150 = .ok (.istore 7, 2) := by decide +kernel
theorem dX3_bitsOf_152 : decode cX3_bitsOf 152 = .ok (.iinc 8 (-1), 3) := by decide +kernel
theorem dX3_bitsOf_155 : decode cX3_bitsOf 155 = .ok (.goto (-83), 3) := by decide +kernel
theorem dX3_bitsOf_158 : decode cX3_bitsOf 158 = .ok (.dload 5, 2) := by decide +kernel
theorem dX3_bitsOf_160 : decode cX3_bitsOf 160 = .ok (.ldc2_w 44, 3) := by decide +kernel
theorem dX3_bitsOf_163 : decode cX3_bitsOf 163 = .ok (.dmul, 1) := by decide +kernel
theorem dX3_bitsOf_164 : decode cX3_bitsOf 164 = .ok (.d2l, 1) := by decide +kernel
theorem dX3_bitsOf_165 : decode cX3_bitsOf 165 = .ok (.lstore 8, 2) := by decide +kernel
theorem dX3_bitsOf_167 : decode cX3_bitsOf 167 = .ok (.lload_n 3, 1) := by decide +kernel
theorem dX3_bitsOf_168 : decode cX3_bitsOf 168 = .ok (.iload 7, 2) := by decide +kernel
theorem dX3_bitsOf_170 : decode cX3_bitsOf 170 = .ok (.sipush 1023, 3) := by decide +kernel
theorem dX3_bitsOf_173 : decode cX3_bitsOf 173 = .ok (.iadd, 1) := by decide +kernel
theorem dX3_bitsOf_174 : decode cX3_bitsOf 174 = .ok (.i2l, 1) := by decide +kernel
theorem dX3_bitsOf_175 : decode cX3_bitsOf 175 = .ok (.bipush 52, 2) := by decide +kernel
theorem dX3_bitsOf_177 : decode cX3_bitsOf 177 = .ok (.lshl, 1) := by decide +kernel
theorem dX3_bitsOf_178 : decode cX3_bitsOf 178 = .ok (.lload 8, 2) := by decide +kernel
theorem dX3_bitsOf_180 : decode cX3_bitsOf 180 = .ok (.ladd, 1) := by decide +kernel
theorem dX3_bitsOf_181 : decode cX3_bitsOf 181 = .ok (.ldc2_w 46, 3) := by decide +kernel
theorem dX3_bitsOf_184 : decode cX3_bitsOf 184 = .ok (.lsub, 1) := by decide +kernel
theorem dX3_bitsOf_185 : decode cX3_bitsOf 185 = .ok (.lor, 1) := by decide +kernel
theorem dX3_bitsOf_186 : decode cX3_bitsOf 186 = .ok (.lreturn, 1) := by decide +kernel
theorem dX3_bitsOfDigits_0 : decode cX3_bitsOfDigits 0 = .ok (.aload_n 0, 1) := by decide +kernel
theorem dX3_bitsOfDigits_1 : decode cX3_bitsOfDigits 1 = .ok (.lload_n 1, 1) := by decide +kernel
theorem dX3_bitsOfDigits_2 : decode cX3_bitsOfDigits 2 = .ok (.l2d, 1) := by decide +kernel
theorem dX3_bitsOfDigits_3 : decode cX3_bitsOfDigits 3 = .ok (.aload_n 0, 1) := by decide +kernel
theorem dX3_bitsOfDigits_4 : decode cX3_bitsOfDigits 4 = .ok (.getfield 9, 3) := by decide +kernel
theorem dX3_bitsOfDigits_7 : decode cX3_bitsOfDigits 7 = .ok (.iload_n 3, 1) := by decide +kernel
theorem dX3_bitsOfDigits_8 : decode cX3_bitsOfDigits 8 = .ok (.daload, 1) := by decide +kernel
theorem dX3_bitsOfDigits_9 : decode cX3_bitsOfDigits 9 = .ok (.ddiv, 1) := by decide +kernel
theorem dX3_bitsOfDigits_10 : decode cX3_bitsOfDigits 10 = .ok (.invokevirtual 48, 3) := by decide +kernel
theorem dX3_bitsOfDigits_13 : decode cX3_bitsOfDigits 13 = .ok (.lreturn, 1) := by decide +kernel
theorem dX3_decimal_0 : decode cX3_decimal 0 = .ok (.lload_n 1, 1) := by decide +kernel
theorem dX3_decimal_1 : decode cX3_decimal 1 = .ok (.l2d, 1) := by decide +kernel
theorem dX3_decimal_2 : decode cX3_decimal 2 = .ok (.aload_n 0, 1) := by decide +kernel
theorem dX3_decimal_3 : decode cX3_decimal 3 = .ok (.getfield 9, 3) := by decide +kernel
theorem dX3_decimal_6 : decode cX3_decimal 6 = .ok (.iload 4, 2) := by decide +kernel
theorem dX3_decimal_8 : decode cX3_decimal 8 = .ok (.daload, 1) := by decide +kernel
theorem dX3_decimal_9 : decode cX3_decimal 9 = .ok (.dmul, 1) := by decide +kernel
theorem dX3_decimal_10 : decode cX3_decimal 10 = .ok (.aload_n 0, 1) := by decide +kernel
theorem dX3_decimal_11 : decode cX3_decimal 11 = .ok (.getfield 15, 3) := by decide +kernel
theorem dX3_decimal_14 : decode cX3_decimal 14 = .ok (.iload_n 3, 1) := by decide +kernel
theorem dX3_decimal_15 : decode cX3_decimal 15 = .ok (.daload, 1) := by decide +kernel
theorem dX3_decimal_16 : decode cX3_decimal 16 = .ok (.dmul, 1) := by decide +kernel
theorem dX3_decimal_17 : decode cX3_decimal 17 = .ok (.dreturn, 1) := by decide +kernel
theorem dX3_wholeOf_0 : decode cX3_wholeOf 0 = .ok (.dload_n 1, 1) := by decide +kernel
theorem dX3_wholeOf_1 : decode cX3_wholeOf 1 = .ok (.aload_n 0, 1) := by decide +kernel
theorem dX3_wholeOf_2 : decode cX3_wholeOf 2 = .ok (.getfield 9, 3) := by decide +kernel
theorem dX3_wholeOf_5 : decode cX3_wholeOf 5 = .ok (.iload_n 3, 1) := by decide +kernel
theorem dX3_wholeOf_6 : decode cX3_wholeOf 6 = .ok (.daload, 1) := by decide +kernel
theorem dX3_wholeOf_7 : decode cX3_wholeOf 7 = .ok (.dmul, 1) := by decide +kernel
theorem dX3_wholeOf_8 : decode cX3_wholeOf 8 = .ok (.aload_n 0, 1) := by decide +kernel
theorem dX3_wholeOf_9 : decode cX3_wholeOf 9 = .ok (.getfield 15, 3) := by decide +kernel
theorem dX3_wholeOf_12 : decode cX3_wholeOf 12 = .ok (.iload 4, 2) := by decide +kernel
theorem dX3_wholeOf_14 : decode cX3_wholeOf 14 = .ok (.daload, 1) := by decide +kernel
theorem dX3_wholeOf_15 : decode cX3_wholeOf 15 = .ok (.dmul, 1) := by decide +kernel
theorem dX3_wholeOf_16 : decode cX3_wholeOf 16 = .ok (.dstore 5, 2) := by decide +kernel
theorem dX3_wholeOf_18 : decode cX3_wholeOf 18 = .ok (.dload 5, 2) := by decide +kernel
theorem dX3_wholeOf_20 : decode cX3_wholeOf 20 = .ok (.ldc2_w 52, 3) := by decide +kernel
theorem dX3_wholeOf_23 : decode cX3_wholeOf 23 = .ok (.dcmp .l, 1) := by decide +kernel
theorem dX3_wholeOf_24 : decode cX3_wholeOf 24 = .ok (.ifCond .le 48, 3) := by decide +kernel
theorem dX3_wholeOf_27 : decode cX3_wholeOf 27 = .ok (.dload 5, 2) := by decide +kernel
theorem dX3_wholeOf_29 : decode cX3_wholeOf 29 = .ok (.ldc2_w 54, 3) := by decide +kernel
theorem dX3_wholeOf_32 : decode cX3_wholeOf 32 = .ok (.dcmp .g, 1) := by decide +kernel
theorem dX3_wholeOf_33 : decode cX3_wholeOf 33 = .ok (.ifCond .ge 39, 3) := by decide +kernel
theorem dX3_wholeOf_36 : decode cX3_wholeOf 36 = .ok (.dload 5, 2) := by decide +kernel
theorem dX3_wholeOf_38 : decode cX3_wholeOf 38 = .ok (.ldc2_w 56, 3) := by decide +kernel
theorem dX3_wholeOf_41 : decode cX3_wholeOf 41 = .ok (.dadd, 1) := by decide +kernel
theorem dX3_wholeOf_42 : decode cX3_wholeOf 42 = .ok (.ldc2_w 56, 3) := by decide +kernel
theorem dX3_wholeOf_45 : decode cX3_wholeOf 45 = .ok (.dsub, 1) := by decide +kernel
theorem dX3_wholeOf_46 : decode cX3_wholeOf 46 = .ok (.d2l, 1) := by decide +kernel
theorem dX3_wholeOf_47 : decode cX3_wholeOf 47 = .ok (.lstore 7, 2) := by decide +kernel
theorem dX3_wholeOf_49 : decode cX3_wholeOf 49 = .ok (.aload_n 0, 1) := by decide +kernel
theorem dX3_wholeOf_50 : decode cX3_wholeOf 50 = .ok (.lload 7, 2) := by decide +kernel
theorem dX3_wholeOf_52 : decode cX3_wholeOf 52 = .ok (.iload_n 3, 1) := by decide +kernel
theorem dX3_wholeOf_53 : decode cX3_wholeOf 53 = .ok (.iload 4, 2) := by decide +kernel
theorem dX3_wholeOf_55 : decode cX3_wholeOf 55 = .ok (.invokevirtual 58, 3) := by decide +kernel
theorem dX3_wholeOf_58 : decode cX3_wholeOf 58 = .ok (.dload_n 1, 1) := by decide +kernel
theorem dX3_wholeOf_59 : decode cX3_wholeOf 59 = .ok (.dcmp .l, 1) := by decide +kernel
theorem dX3_wholeOf_60 : decode cX3_wholeOf 60 = .ok (.ifCond .ne 8, 3) := by decide +kernel
theorem dX3_wholeOf_63 : decode cX3_wholeOf 63 = .ok (.lload 7, 2) := by decide +kernel
theorem dX3_wholeOf_65 : decode cX3_wholeOf 65 = .ok (.goto 6, 3) := by decide +kernel
theorem dX3_wholeOf_68 : decode cX3_wholeOf 68 = .ok (.ldc2_w 36, 3) := by decide +kernel
theorem dX3_wholeOf_71 : decode cX3_wholeOf 71 = .ok (.lreturn, 1) := by decide +kernel
theorem dX3_wholeOf_72 : decode cX3_wholeOf 72 = .ok (.ldc2_w 36, 3) := by decide +kernel
theorem dX3_wholeOf_75 : decode cX3_wholeOf 75 = .ok (.lreturn, 1) := by decide +kernel
theorem dX3_plus_0 : decode cX3_plus 0 = .ok (.lload_n 1, 1) := by decide +kernel
theorem dX3_plus_1 : decode cX3_plus 1 = .ok (.invokestatic 62, 3) := by decide +kernel
theorem dX3_plus_4 : decode cX3_plus 4 = .ok (.ifCond .ne 24, 3) := by decide +kernel
theorem dX3_plus_7 : decode cX3_plus 7 = .ok (.lload_n 3, 1) := by decide +kernel
theorem dX3_plus_8 : decode cX3_plus 8 = .ok (.invokestatic 62, 3) := by decide +kernel
theorem dX3_plus_11 : decode cX3_plus 11 = .ok (.ifCond .ne 9, 3) := by decide +kernel
theorem dX3_plus_14 : decode cX3_plus 14 = .ok (.lload_n 1, 1) := by decide +kernel
theorem dX3_plus_15 : decode cX3_plus 15 = .ok (.lload_n 3, 1) := by decide +kernel
theorem dX3_plus_16 : decode cX3_plus 16 = .ok (.lcmp, 1) := by decide +kernel
theorem dX3_plus_17 : decode cX3_plus 17 = .ok (.ifCond .ne 7, 3) := by decide +kernel
theorem dX3_plus_20 : decode cX3_plus 20 = .ok (.lload_n 1, 1) := by decide +kernel
theorem dX3_plus_21 : decode cX3_plus 21 = .ok (.goto 6, 3) := by decide +kernel
theorem dX3_plus_24 : decode cX3_plus 24 = .ok (.ldc2_w 66, 3) := by decide +kernel
theorem dX3_plus_27 : decode cX3_plus 27 = .ok (.lreturn, 1) := by decide +kernel
theorem dX3_plus_28 : decode cX3_plus 28 = .ok (.lload_n 3, 1) := by decide +kernel
theorem dX3_plus_29 : decode cX3_plus 29 = .ok (.invokestatic 62, 3) := by decide +kernel
theorem dX3_plus_32 : decode cX3_plus 32 = .ok (.ifCond .ne 5, 3) := by decide +kernel
theorem dX3_plus_35 : decode cX3_plus 35 = .ok (.lload_n 3, 1) := by decide +kernel
theorem dX3_plus_36 : decode cX3_plus 36 = .ok (.lreturn, 1) := by decide +kernel
theorem dX3_plus_37 : decode cX3_plus 37 = .ok (.lload_n 1, 1) := by decide +kernel
theorem dX3_plus_38 : decode cX3_plus 38 = .ok (.ldc2_w 36, 3) := by decide +kernel
theorem dX3_plus_41 : decode cX3_plus 41 = .ok (.lcmp, 1) := by decide +kernel
theorem dX3_plus_42 : decode cX3_plus 42 = .ok (.ifCond .ne 15, 3) := by decide +kernel
theorem dX3_plus_45 : decode cX3_plus 45 = .ok (.lload_n 3, 1) := by decide +kernel
theorem dX3_plus_46 : decode cX3_plus 46 = .ok (.ldc2_w 36, 3) := by decide +kernel
theorem dX3_plus_49 : decode cX3_plus 49 = .ok (.lcmp, 1) := by decide +kernel
theorem dX3_plus_50 : decode cX3_plus 50 = .ok (.ifCond .ne 7, 3) := by decide +kernel
theorem dX3_plus_53 : decode cX3_plus 53 = .ok (.ldc2_w 36, 3) := by decide +kernel
theorem dX3_plus_56 : decode cX3_plus 56 = .ok (.lreturn, 1) := by decide +kernel
theorem dX3_plus_57 : decode cX3_plus 57 = .ok (.aload_n 0, 1) := by decide +kernel
theorem dX3_plus_58 : decode cX3_plus 58 = .ok (.aload_n 0, 1) := by decide +kernel
theorem dX3_plus_59 : decode cX3_plus 59 = .ok (.lload_n 1, 1) := by decide +kernel
theorem dX3_plus_60 : decode cX3_plus 60 = .ok (.invokevirtual 68, 3) := by decide +kernel
theorem dX3_plus_63 : decode cX3_plus 63 = .ok (.aload_n 0, 1) := by decide +kernel
theorem dX3_plus_64 : decode cX3_plus 64 = .ok (.lload_n 3, 1) := by decide +kernel
theorem dX3_plus_65 : decode cX3_plus 65 = .ok (.invokevirtual 68, 3) := by decide +kernel
theorem dX3_plus_68 : decode cX3_plus 68 = .ok (.dadd, 1) := by decide +kernel
theorem dX3_plus_69 : decode cX3_plus 69 = .ok (.invokevirtual 48, 3) := by decide +kernel
theorem dX3_plus_72 : decode cX3_plus 72 = .ok (.lreturn, 1) := by decide +kernel
theorem dX4_init_0 : decode cX4_init 0 = .ok (.aload_n 0, 1) := by decide +kernel
theorem dX4_init_1 : decode cX4_init 1 = .ok (.invokespecial 3, 3) := by decide +kernel
theorem dX4_init_4 : decode cX4_init 4 = .ok (.aload_n 0, 1) := by decide +kernel
theorem dX4_init_5 : decode cX4_init 5 = .ok (.bipush 120, 2) := by decide +kernel
theorem dX4_init_7 : decode cX4_init 7 = .ok (.newarray .int, 2) := by decide +kernel
theorem dX4_init_9 : decode cX4_init 9 = .ok (.putfield 9, 3) := by decide +kernel
theorem dX4_init_12 : decode cX4_init 12 = .ok (.aload_n 0, 1) := by decide +kernel
theorem dX4_init_13 : decode cX4_init 13 = .ok (.bipush 64, 2) := by decide +kernel
theorem dX4_init_15 : decode cX4_init 15 = .ok (.newarray .boolean, 2) := by decide +kernel
theorem dX4_init_17 : decode cX4_init 17 = .ok (.putfield 15, 3) := by decide +kernel
theorem dX4_init_20 : decode cX4_init 20 = .ok (.aload_n 0, 1) := by decide +kernel
theorem dX4_init_21 : decode cX4_init 21 = .ok (.bipush 64, 2) := by decide +kernel
theorem dX4_init_23 : decode cX4_init 23 = .ok (.newarray .long, 2) := by decide +kernel
theorem dX4_init_25 : decode cX4_init 25 = .ok (.putfield 19, 3) := by decide +kernel
theorem dX4_init_28 : decode cX4_init 28 = .ok (.aload_n 0, 1) := by decide +kernel
theorem dX4_init_29 : decode cX4_init 29 = .ok (.sipush 7680, 3) := by decide +kernel
theorem dX4_init_32 : decode cX4_init 32 = .ok (.newarray .long, 2) := by decide +kernel
theorem dX4_init_34 : decode cX4_init 34 = .ok (.putfield 23, 3) := by decide +kernel
theorem dX4_init_37 : decode cX4_init 37 = .ok (.aload_n 0, 1) := by decide +kernel
theorem dX4_init_38 : decode cX4_init 38 = .ok (.aload_n 1, 1) := by decide +kernel
theorem dX4_init_39 : decode cX4_init 39 = .ok (.putfield 26, 3) := by decide +kernel
theorem dX4_init_42 : decode cX4_init 42 = .ok (.iconst 0, 1) := by decide +kernel
theorem dX4_init_43 : decode cX4_init 43 = .ok (.istore_n 2, 1) := by decide +kernel
theorem dX4_init_44 : decode cX4_init 44 = .ok (.iconst 0, 1) := by decide +kernel
theorem dX4_init_45 : decode cX4_init 45 = .ok (.istore_n 3, 1) := by decide +kernel
theorem dX4_init_46 : decode cX4_init 46 = .ok (.iload_n 3, 1) := by decide +kernel
theorem dX4_init_47 : decode cX4_init 47 = .ok (.bipush 15, 2) := by decide +kernel
theorem dX4_init_49 : decode cX4_init 49 = .ok (.if_icmp .ge 40, 3) := by decide +kernel
theorem dX4_init_52 : decode cX4_init 52 = .ok (.iconst 0, 1) := by decide +kernel
theorem dX4_init_53 : decode cX4_init 53 = .ok (.istore 4, 2) := by decide +kernel
theorem dX4_init_55 : decode cX4_init 55 = .ok (.iload 4, 2) := by decide +kernel
theorem dX4_init_57 : decode cX4_init 57 = .ok (.iload_n 3, 1) := by decide +kernel
theorem dX4_init_58 : decode cX4_init 58 = .ok (.if_icmp .gt 25, 3) := by decide +kernel
theorem dX4_init_61 : decode cX4_init 61 = .ok (.aload_n 0, 1) := by decide +kernel
theorem dX4_init_62 : decode cX4_init 62 = .ok (.getfield 9, 3) := by decide +kernel
theorem dX4_init_65 : decode cX4_init 65 = .ok (.iload_n 2, 1) := by decide +kernel
theorem dX4_init_66 : decode cX4_init 66 = .ok (.bipush 16, 2) := by decide +kernel
theorem dX4_init_68 : decode cX4_init 68 = .ok (.iload_n 3, 1) := by decide +kernel
theorem dX4_init_69 : decode cX4_init 69 = .ok (.imul, 1) := by decide +kernel
theorem dX4_init_70 : decode cX4_init 70 = .ok (.iload 4, 2) := by decide +kernel
theorem dX4_init_72 : decode cX4_init 72 = .ok (.iadd, 1) := by decide +kernel
theorem dX4_init_73 : decode cX4_init 73 = .ok (.iastore, 1) := by decide +kernel
theorem dX4_init_74 : decode cX4_init 74 = .ok (.iinc 2 1, 3) := by decide +kernel
theorem dX4_init_77 : decode cX4_init 77 = .ok (.iinc 4 1, 3) := by decide +kernel
theorem dX4_init_80 : decode cX4_init 80 = .ok (.goto (-25), 3) := by decide +kernel
theorem dX4_init_83 : decode cX4_init 83 = .ok (.iinc 3 1, 3) := by decide +kernel
theorem dX4_init_86 : decode cX4_init 86 = .ok (.goto (-40), 3) := by decide +kernel
theorem dX4_init_89 : decode cX4_init 89 = .ok (.return_, 1) := by decide +kernel
theorem dX4_code_0 : decode cX4_code 0 = .ok (.aload_n 0, 1) := by decide +kernel
theorem dX4_code_1 : decode cX4_code 1 = .ok (.getfield 9, 3) := by decide +kernel
theorem dX4_code_4 : decode cX4_code 4 = .ok (.iload_n 1, 1) := by decide +kernel
theorem dX4_code_5 : decode cX4_code 5 = .ok (.iaload, 1) := by decide +kernel
theorem dX4_code_6 : decode cX4_code 6 = .ok (.ireturn, 1) := by decide +kernel
theorem dX4_at_0 : decode cX4_at 0 = .ok (.aload_n 0, 1) := by decide +kernel
theorem dX4_at_1 : decode cX4_at 1 = .ok (.getfield 23, 3) := by decide +kernel
theorem dX4_at_4 : decode cX4_at 4 = .ok (.iload_n 1, 1) := by decide +kernel
theorem dX4_at_5 : decode cX4_at 5 = .ok (.bipush 120, 2) := by decide +kernel
theorem dX4_at_7 : decode cX4_at 7 = .ok (.imul, 1) := by decide +kernel
theorem dX4_at_8 : decode cX4_at 8 = .ok (.iload_n 2, 1) := by decide +kernel
theorem dX4_at_9 : decode cX4_at 9 = .ok (.iadd, 1) := by decide +kernel
theorem dX4_at_10 : decode cX4_at 10 = .ok (.laload, 1) := by decide +kernel
theorem dX4_at_11 : decode cX4_at 11 = .ok (.lreturn, 1) := by decide +kernel
theorem dX4_learn_0 : decode cX4_learn 0 = .ok (.iconst 0, 1) := by decide +kernel
theorem dX4_learn_1 : decode cX4_learn 1 = .ok (.istore_n 2, 1) := by decide +kernel
theorem dX4_learn_2 : decode cX4_learn 2 = .ok (.iload_n 2, 1) := by decide +kernel
theorem dX4_learn_3 : decode cX4_learn 3 = .ok (.aload_n 1, 1) := by decide +kernel
theorem dX4_learn_4 : decode cX4_learn 4 = .ok (.getfield 30, 3) := by decide +kernel
theorem dX4_learn_7 : decode cX4_learn 7 = .ok (.if_icmp .ge 58, 3) := by decide +kernel
theorem dX4_learn_10 : decode cX4_learn 10 = .ok (.aload_n 0, 1) := by decide +kernel
theorem dX4_learn_11 : decode cX4_learn 11 = .ok (.getfield 15, 3) := by decide +kernel
theorem dX4_learn_14 : decode cX4_learn 14 = .ok (.iload_n 2, 1) := by decide +kernel
theorem dX4_learn_15 : decode cX4_learn 15 = .ok (.baload, 1) := by decide +kernel
theorem dX4_learn_16 : decode cX4_learn 16 = .ok (.ifCond .eq 19, 3) := by decide +kernel
theorem dX4_learn_19 : decode cX4_learn 19 = .ok (.aload_n 0, 1) := by decide +kernel
theorem dX4_learn_20 : decode cX4_learn 20 = .ok (.getfield 19, 3) := by decide +kernel
theorem dX4_learn_23 : decode cX4_learn 23 = .ok (.iload_n 2, 1) := by decide +kernel
theorem dX4_learn_24 : decode cX4_learn 24 = .ok (.laload, 1) := by decide +kernel
theorem dX4_learn_25 : decode cX4_learn 25 = .ok (.aload_n 1, 1) := by decide +kernel
theorem dX4_learn_26 : decode cX4_learn 26 = .ok (.getfield 36, 3) := by decide +kernel
theorem dX4_learn_29 : decode cX4_learn 29 = .ok (.iload_n 2, 1) := by decide +kernel
theorem dX4_learn_30 : decode cX4_learn 30 = .ok (.laload, 1) := by decide +kernel
theorem dX4_learn_31 : decode cX4_learn 31 = .ok (.lcmp, 1) := by decide +kernel
theorem dX4_learn_32 : decode cX4_learn 32 = .ok (.ifCond .eq 27, 3) := by decide +kernel
theorem dX4_learn_35 : decode cX4_learn 35 = .ok (.aload_n 0, 1) := by decide +kernel
theorem dX4_learn_36 : decode cX4_learn 36 = .ok (.getfield 15, 3) := by decide +kernel
theorem dX4_learn_39 : decode cX4_learn 39 = .ok (.iload_n 2, 1) := by decide +kernel
theorem dX4_learn_40 : decode cX4_learn 40 = .ok (.iconst 1, 1) := by decide +kernel
theorem dX4_learn_41 : decode cX4_learn 41 = .ok (.bastore, 1) := by decide +kernel
theorem dX4_learn_42 : decode cX4_learn 42 = .ok (.aload_n 0, 1) := by decide +kernel
theorem dX4_learn_43 : decode cX4_learn 43 = .ok (.getfield 19, 3) := by decide +kernel
theorem dX4_learn_46 : decode cX4_learn 46 = .ok (.iload_n 2, 1) := by decide +kernel
theorem dX4_learn_47 : decode cX4_learn 47 = .ok (.aload_n 1, 1) := by decide +kernel
theorem dX4_learn_48 : decode cX4_learn 48 = .ok (.getfield 36, 3) := by decide +kernel
theorem dX4_learn_51 : decode cX4_learn 51 = .ok (.iload_n 2, 1) := by decide +kernel
theorem dX4_learn_52 : decode cX4_learn 52 = .ok (.laload, 1) := by decide +kernel
theorem dX4_learn_53 : decode cX4_learn 53 = .ok (.lastore, 1) := by decide +kernel
theorem dX4_learn_54 : decode cX4_learn 54 = .ok (.aload_n 0, 1) := by decide +kernel
theorem dX4_learn_55 : decode cX4_learn 55 = .ok (.iload_n 2, 1) := by decide +kernel
theorem dX4_learn_56 : decode cX4_learn 56 = .ok (.invokevirtual 37, 3) := by decide +kernel
theorem dX4_learn_59 : decode cX4_learn 59 = .ok (.iinc 2 1, 3) := by decide +kernel
theorem dX4_learn_62 : decode cX4_learn 62 = .ok (.goto (-60), 3) := by decide +kernel
theorem dX4_learn_65 : decode cX4_learn 65 = .ok (.return_, 1) := by decide +kernel
theorem dX4_learnOne_0 : decode cX4_learnOne 0 = .ok (.aload_n 0, 1) := by decide +kernel
theorem dX4_learnOne_1 : decode cX4_learnOne 1 = .ok (.getfield 19, 3) := by decide +kernel
theorem dX4_learnOne_4 : decode cX4_learnOne 4 = .ok (.iload_n 1, 1) := by decide +kernel
theorem dX4_learnOne_5 : decode cX4_learnOne 5 = .ok (.laload, 1) := by decide +kernel
theorem dX4_learnOne_6 : decode cX4_learnOne 6 = .ok (.invokestatic 41, 3) := by decide +kernel
theorem dX4_learnOne_9 : decode cX4_learnOne 9 = .ok (.ifCond .eq 20, 3) := by decide +kernel
theorem dX4_learnOne_12 : decode cX4_learnOne 12 = .ok (.aload_n 0, 1) := by decide +kernel
theorem dX4_learnOne_13 : decode cX4_learnOne 13 = .ok (.getfield 19, 3) := by decide +kernel
theorem dX4_learnOne_16 : decode cX4_learnOne 16 = .ok (.iload_n 1, 1) := by decide +kernel
theorem dX4_learnOne_17 : decode cX4_learnOne 17 = .ok (.laload, 1) := by decide +kernel
theorem dX4_learnOne_18 : decode cX4_learnOne 18 = .ok (.ldc2_w 45, 3) := by decide +kernel
theorem dX4_learnOne_21 : decode cX4_learnOne 21 = .ok (.lcmp, 1) := by decide +kernel
theorem dX4_learnOne_22 : decode cX4_learnOne 22 = .ok (.ifCond .eq 7, 3) := by decide +kernel
theorem dX4_learnOne_25 : decode cX4_learnOne 25 = .ok (.iconst 1, 1) := by decide +kernel
theorem dX4_learnOne_26 : decode cX4_learnOne 26 = .ok (.goto 4, 3) := by decide +kernel
theorem dX4_learnOne_29 : decode cX4_learnOne 29 = .ok (.iconst 0, 1) := by decide +kernel
theorem dX4_learnOne_30 : decode cX4_learnOne 30 = .ok (.istore_n 2, 1) := by decide +kernel
theorem dX4_learnOne_31 : decode cX4_learnOne 31 = .ok (.iload_n 2, 1) := by decide +kernel
theorem dX4_learnOne_32 : decode cX4_learnOne 32 = .ok (.ifCond .eq 19, 3) := by decide +kernel
theorem dX4_learnOne_35 : decode cX4_learnOne 35 = .ok (.aload_n 0, 1) := by decide +kernel
theorem dX4_learnOne_36 : decode cX4_learnOne 36 = .ok (.getfield 26, 3) := by decide +kernel
theorem dX4_learnOne_39 : decode cX4_learnOne 39 = .ok (.aload_n 0, 1) := by decide +kernel
theorem dX4_learnOne_40 : decode cX4_learnOne 40 = .ok (.getfield 19, 3) := by decide +kernel
theorem dX4_learnOne_43 : decode cX4_learnOne 43 = .ok (.iload_n 1, 1) := by decide +kernel
theorem dX4_learnOne_44 : decode cX4_learnOne 44 = .ok (.laload, 1) := by decide +kernel
theorem dX4_learnOne_45 : decode cX4_learnOne 45 = .ok (.invokevirtual 47, 3) := by decide +kernel
theorem dX4_learnOne_48 : decode cX4_learnOne 48 = .ok (.goto 4, 3) := by decide +kernel
theorem dX4_learnOne_51 : decode cX4_learnOne 51 = .ok (.dconst 0, 1) := by decide +kernel
theorem dX4_learnOne_52 : decode cX4_learnOne 52 = .ok (.dstore_n 3, 1) := by decide +kernel
theorem dX4_learnOne_53 : decode cX4_learnOne 53 = .ok (.iconst 0, 1) := by decide +kernel
theorem dX4_learnOne_54 : decode cX4_learnOne 54 = .ok (.istore 5, 2) := by decide +kernel
theorem dX4_learnOne_56 : decode cX4_learnOne 56 = .ok (.iload 5, 2) := by decide +kernel
theorem dX4_learnOne_58 : decode cX4_learnOne 58 = .ok (.bipush 120, 2) := by decide +kernel
theorem dX4_learnOne_60 : decode cX4_learnOne 60 = .ok (.if_icmp .ge 58, 3) := by decide +kernel
theorem dX4_learnOne_63 : decode cX4_learnOne 63 = .ok (.aload_n 0, 1) := by decide +kernel
theorem dX4_learnOne_64 : decode cX4_learnOne 64 = .ok (.getfield 23, 3) := by decide +kernel
theorem dX4_learnOne_67 : decode cX4_learnOne 67 = .ok (.iload_n 1, 1) := by decide +kernel
theorem dX4_learnOne_68 : decode cX4_learnOne 68 = .ok (.bipush 120, 2) := by decide +kernel
theorem dX4_learnOne_70 : decode cX4_learnOne 70 = .ok (.imul, 1) := by decide +kernel
theorem dX4_learnOne_71 : decode cX4_learnOne 71 = .ok (.iload 5, 2) := by decide +kernel
theorem dX4_learnOne_73 : decode cX4_learnOne 73 = .ok (.iadd, 1) := by decide +kernel
theorem dX4_learnOne_74 : decode cX4_learnOne 74 = .ok (.iload_n 2, 1) := by decide +kernel
theorem dX4_learnOne_75 : decode cX4_learnOne 75 = .ok (.ifCond .eq 33, 3) := by decide +kernel
theorem dX4_learnOne_78 : decode cX4_learnOne 78 = .ok (.aload_n 0, 1) := by decide +kernel
theorem dX4_learnOne_79 : decode cX4_learnOne 79 = .ok (.getfield 26, 3) := by decide +kernel
theorem dX4_learnOne_82 : decode cX4_learnOne 82 = .ok (.dload_n 3, 1) := by decide +kernel
theorem dX4_learnOne_83 : decode cX4_learnOne 83 = .ok (.aload_n 0, 1) := by decide +kernel
theorem dX4_learnOne_84 : decode cX4_learnOne 84 = .ok (.getfield 9, 3) := by decide +kernel
theorem dX4_learnOne_87 : decode cX4_learnOne 87 = .ok (.iload 5, 2) := by decide +kernel
theorem dX4_learnOne_89 : decode cX4_learnOne 89 = .ok (.iaload, 1) := by decide +kernel
theorem dX4_learnOne_90 : decode cX4_learnOne 90 = .ok (.iconst 4, 1) := by decide +kernel
theorem dX4_learnOne_91 : decode cX4_learnOne 91 = .ok (.ishr, 1) := by decide +kernel
theorem dX4_learnOne_92 : decode cX4_learnOne 92 = .ok (.aload_n 0, 1) := by decide +kernel
theorem dX4_learnOne_93 : decode cX4_learnOne 93 = .ok (.getfield 9, 3) := by decide +kernel
theorem dX4_learnOne_96 : decode cX4_learnOne 96 = .ok (.iload 5, 2) := by decide +kernel
theorem dX4_learnOne_98 : decode cX4_learnOne 98 = .ok (.iaload, 1) := by decide +kernel
theorem dX4_learnOne_99 : decode cX4_learnOne 99 = .ok (.bipush 15, 2) := by decide +kernel
theorem dX4_learnOne_101 : decode cX4_learnOne 101 = .ok (.iand, 1) := by decide +kernel
theorem dX4_learnOne_102 : decode cX4_learnOne 102 = .ok (.invokevirtual 53, 3) := by decide +kernel
theorem dX4_learnOne_105 : decode cX4_learnOne 105 = .ok (.goto 6, 3) := by decide +kernel
theorem dX4_learnOne_108 : decode cX4_learnOne 108 = .ok (.ldc2_w 45, 3) := by decide +kernel
theorem dX4_learnOne_111 : decode cX4_learnOne 111 = .ok (.lastore, 1) := by decide +kernel
theorem dX4_learnOne_112 : decode cX4_learnOne 112 = .ok (.iinc 5 1, 3) := by decide +kernel
theorem dX4_learnOne_115 : decode cX4_learnOne 115 = .ok (.goto (-59), 3) := by decide +kernel
theorem dX4_learnOne_118 : decode cX4_learnOne 118 = .ok (.return_, 1) := by decide +kernel
theorem dX5_init_0 : decode cX5_init 0 = .ok (.aload_n 0, 1) := by decide +kernel
theorem dX5_init_1 : decode cX5_init 1 = .ok (.invokespecial 3, 3) := by decide +kernel
theorem dX5_init_4 : decode cX5_init 4 = .ok (.aload_n 0, 1) := by decide +kernel
theorem dX5_init_5 : decode cX5_init 5 = .ok (.sipush 320, 3) := by decide +kernel
theorem dX5_init_8 : decode cX5_init 8 = .ok (.newarray .int, 2) := by decide +kernel
theorem dX5_init_10 : decode cX5_init 10 = .ok (.putfield 9, 3) := by decide +kernel
theorem dX5_init_13 : decode cX5_init 13 = .ok (.return_, 1) := by decide +kernel
theorem dX5_append_0 : decode cX5_append 0 = .ok (.aload_n 0, 1) := by decide +kernel
theorem dX5_append_1 : decode cX5_append 1 = .ok (.getfield 15, 3) := by decide +kernel
theorem dX5_append_4 : decode cX5_append 4 = .ok (.sipush 320, 3) := by decide +kernel
theorem dX5_append_7 : decode cX5_append 7 = .ok (.if_icmp .ge 27, 3) := by decide +kernel
theorem dX5_append_10 : decode cX5_append 10 = .ok (.aload_n 0, 1) := by decide +kernel
theorem dX5_append_11 : decode cX5_append 11 = .ok (.getfield 9, 3) := by decide +kernel
theorem dX5_append_14 : decode cX5_append 14 = .ok (.aload_n 0, 1) := by decide +kernel
theorem dX5_append_15 : decode cX5_append 15 = .ok (.getfield 15, 3) := by decide +kernel
theorem dX5_append_18 : decode cX5_append 18 = .ok (.iload_n 1, 1) := by decide +kernel
theorem dX5_append_19 : decode cX5_append 19 = .ok (.sipush 255, 3) := by decide +kernel
theorem dX5_append_22 : decode cX5_append 22 = .ok (.iand, 1) := by decide +kernel
theorem dX5_append_23 : decode cX5_append 23 = .ok (.iastore, 1) := by decide +kernel
theorem dX5_append_24 : decode cX5_append 24 = .ok (.aload_n 0, 1) := by decide +kernel
theorem dX5_append_25 : decode cX5_append 25 = .ok (.dup, 1) := by decide +kernel
theorem dX5_append_26 : decode cX5_append 26 = .ok (.getfield 15, 3) := by decide +kernel
theorem dX5_append_29 : decode cX5_append 29 = .ok (.iconst 1, 1) := by decide +kernel
theorem dX5_append_30 : decode cX5_append 30 = .ok (.iadd, 1) := by decide +kernel
theorem dX5_append_31 : decode cX5_append 31 = .ok (.putfield 15, 3) := by decide +kernel
theorem dX5_append_34 : decode cX5_append 34 = .ok (.return_, 1) := by decide +kernel
theorem dX5_appendInt_0 : decode cX5_appendInt 0 = .ok (.aload_n 0, 1) := by decide +kernel
theorem dX5_appendInt_1 : decode cX5_appendInt 1 = .ok (.iload_n 1, 1) := by decide +kernel
theorem dX5_appendInt_2 : decode cX5_appendInt 2 = .ok (.bipush 24, 2) := by decide +kernel
theorem dX5_appendInt_4 : decode cX5_appendInt 4 = .ok (.iushr, 1) := by decide +kernel
theorem dX5_appendInt_5 : decode cX5_appendInt 5 = .ok (.invokevirtual 19, 3) := by decide +kernel
theorem dX5_appendInt_8 : decode cX5_appendInt 8 = .ok (.aload_n 0, 1) := by decide +kernel
theorem dX5_appendInt_9 : decode cX5_appendInt 9 = .ok (.iload_n 1, 1) := by decide +kernel
theorem dX5_appendInt_10 : decode cX5_appendInt 10 = .ok (.bipush 16, 2) := by decide +kernel
theorem dX5_appendInt_12 : decode cX5_appendInt 12 = .ok (.iushr, 1) := by decide +kernel
theorem dX5_appendInt_13 : decode cX5_appendInt 13 = .ok (.invokevirtual 19, 3) := by decide +kernel
theorem dX5_appendInt_16 : decode cX5_appendInt 16 = .ok (.aload_n 0, 1) := by decide +kernel
theorem dX5_appendInt_17 : decode cX5_appendInt 17 = .ok (.iload_n 1, 1) := by decide +kernel
theorem dX5_appendInt_18 : decode cX5_appendInt 18 = .ok (.bipush 8, 2) := by decide +kernel
theorem dX5_appendInt_20 : decode cX5_appendInt 20 = .ok (.iushr, 1) := by decide +kernel
theorem dX5_appendInt_21 : decode cX5_appendInt 21 = .ok (.invokevirtual 19, 3) := by decide +kernel
theorem dX5_appendInt_24 : decode cX5_appendInt 24 = .ok (.aload_n 0, 1) := by decide +kernel
theorem dX5_appendInt_25 : decode cX5_appendInt 25 = .ok (.iload_n 1, 1) := by decide +kernel
theorem dX5_appendInt_26 : decode cX5_appendInt 26 = .ok (.invokevirtual 19, 3) := by decide +kernel
theorem dX5_appendInt_29 : decode cX5_appendInt 29 = .ok (.return_, 1) := by decide +kernel
theorem dX5_appendLong_0 : decode cX5_appendLong 0 = .ok (.aload_n 0, 1) := by decide +kernel
theorem dX5_appendLong_1 : decode cX5_appendLong 1 = .ok (.lload_n 1, 1) := by decide +kernel
theorem dX5_appendLong_2 : decode cX5_appendLong 2 = .ok (.bipush 32, 2) := by decide +kernel
theorem dX5_appendLong_4 : decode cX5_appendLong 4 = .ok (.lushr, 1) := by decide +kernel
theorem dX5_appendLong_5 : decode cX5_appendLong 5 = .ok (.l2i, 1) := by decide +kernel
theorem dX5_appendLong_6 : decode cX5_appendLong 6 = .ok (.invokevirtual 23, 3) := by decide +kernel
theorem dX5_appendLong_9 : decode cX5_appendLong 9 = .ok (.aload_n 0, 1) := by decide +kernel
theorem dX5_appendLong_10 : decode cX5_appendLong 10 = .ok (.lload_n 1, 1) := by decide +kernel
theorem dX5_appendLong_11 : decode cX5_appendLong 11 = .ok (.l2i, 1) := by decide +kernel
theorem dX5_appendLong_12 : decode cX5_appendLong 12 = .ok (.invokevirtual 23, 3) := by decide +kernel
theorem dX5_appendLong_15 : decode cX5_appendLong 15 = .ok (.return_, 1) := by decide +kernel
theorem dX5_checkAt_0 : decode cX5_checkAt 0 = .ok (.bipush 7, 2) := by decide +kernel
theorem dX5_checkAt_2 : decode cX5_checkAt 2 = .ok (.istore_n 2, 1) := by decide +kernel
theorem dX5_checkAt_3 : decode cX5_checkAt 3 = .ok (.iconst 0, 1) := by decide +kernel
theorem dX5_checkAt_4 : decode cX5_checkAt 4 = .ok (.istore_n 3, 1) := by decide +kernel
theorem dX5_checkAt_5 : decode cX5_checkAt 5 = .ok (.iload_n 3, 1) := by decide +kernel
theorem dX5_checkAt_6 : decode cX5_checkAt 6 = .ok (.iload_n 1, 1) := by decide +kernel
theorem dX5_checkAt_7 : decode cX5_checkAt 7 = .ok (.if_icmp .ge 33, 3) := by decide +kernel
theorem dX5_checkAt_10 : decode cX5_checkAt 10 = .ok (.iload_n 3, 1) := by decide +kernel
theorem dX5_checkAt_11 : decode cX5_checkAt 11 = .ok (.aload_n 0, 1) := by decide +kernel
theorem dX5_checkAt_12 : decode cX5_checkAt 12 = .ok (.getfield 15, 3) := by decide +kernel
theorem dX5_checkAt_15 : decode cX5_checkAt 15 = .ok (.if_icmp .ge 25, 3) := by decide +kernel
theorem dX5_checkAt_18 : decode cX5_checkAt 18 = .ok (.bipush 31, 2) := by decide +kernel
theorem dX5_checkAt_20 : decode cX5_checkAt 20 = .ok (.iload_n 2, 1) := by decide +kernel
theorem dX5_checkAt_21 : decode cX5_checkAt 21 = .ok (.imul, 1) := by decide +kernel
theorem dX5_checkAt_22 : decode cX5_checkAt 22 = .ok (.aload_n 0, 1) := by decide +kernel
theorem dX5_checkAt_23 : decode cX5_checkAt 23 = .ok (.getfield 9, 3) := by decide +kernel
theorem dX5_checkAt_26 : decode cX5_checkAt 26 = .ok (.iload_n 3, 1) := by decide +kernel
theorem dX5_checkAt_27 : decode cX5_checkAt 27 = .ok (.iaload, 1) := by decide +kernel
theorem dX5_checkAt_28 : decode cX5_checkAt 28 = .ok (.iadd, 1) := by decide +kernel
theorem dX5_checkAt_29 : decode cX5_checkAt 29 = .ok (.sipush 251, 3) := by decide +kernel
theorem dX5_checkAt_32 : decode cX5_checkAt 32 = .ok (.irem, 1) := by decide +kernel
theorem dX5_checkAt_33 : decode cX5_checkAt 33 = .ok (.istore_n 2, 1) := by decide +kernel
theorem dX5_checkAt_34 : decode cX5_checkAt 34 = .ok (.iinc 3 1, 3) := by decide +kernel
theorem dX5_checkAt_37 : decode cX5_checkAt 37 = .ok (.goto (-32), 3) := by decide +kernel
theorem dX5_checkAt_40 : decode cX5_checkAt 40 = .ok (.iload_n 2, 1) := by decide +kernel
theorem dX5_checkAt_41 : decode cX5_checkAt 41 = .ok (.ireturn, 1) := by decide +kernel
theorem dX6_init_0 : decode cX6_init 0 = .ok (.aload_n 0, 1) := by decide +kernel
theorem dX6_init_1 : decode cX6_init 1 = .ok (.invokespecial 3, 3) := by decide +kernel
theorem dX6_init_4 : decode cX6_init 4 = .ok (.aload_n 0, 1) := by decide +kernel
theorem dX6_init_5 : decode cX6_init 5 = .ok (.bipush 8, 2) := by decide +kernel
theorem dX6_init_7 : decode cX6_init 7 = .ok (.newarray .int, 2) := by decide +kernel
theorem dX6_init_9 : decode cX6_init 9 = .ok (.putfield 9, 3) := by decide +kernel
theorem dX6_init_12 : decode cX6_init 12 = .ok (.aload_n 0, 1) := by decide +kernel
theorem dX6_init_13 : decode cX6_init 13 = .ok (.bipush 16, 2) := by decide +kernel
theorem dX6_init_15 : decode cX6_init 15 = .ok (.newarray .int, 2) := by decide +kernel
theorem dX6_init_17 : decode cX6_init 17 = .ok (.putfield 15, 3) := by decide +kernel
theorem dX6_init_20 : decode cX6_init 20 = .ok (.aload_n 0, 1) := by decide +kernel
theorem dX6_init_21 : decode cX6_init 21 = .ok (.bipush 16, 2) := by decide +kernel
theorem dX6_init_23 : decode cX6_init 23 = .ok (.newarray .int, 2) := by decide +kernel
theorem dX6_init_25 : decode cX6_init 25 = .ok (.putfield 18, 3) := by decide +kernel
theorem dX6_init_28 : decode cX6_init 28 = .ok (.return_, 1) := by decide +kernel
theorem dX6_start_0 : decode cX6_start 0 = .ok (.aload_n 0, 1) := by decide +kernel
theorem dX6_start_1 : decode cX6_start 1 = .ok (.iconst 0, 1) := by decide +kernel
theorem dX6_start_2 : decode cX6_start 2 = .ok (.putfield 21, 3) := by decide +kernel
theorem dX6_start_5 : decode cX6_start 5 = .ok (.return_, 1) := by decide +kernel
theorem dX6_offer_0 : decode cX6_offer 0 = .ok (.aload_n 0, 1) := by decide +kernel
theorem dX6_offer_1 : decode cX6_offer 1 = .ok (.getfield 21, 3) := by decide +kernel
theorem dX6_offer_4 : decode cX6_offer 4 = .ok (.bipush 16, 2) := by decide +kernel
theorem dX6_offer_6 : decode cX6_offer 6 = .ok (.if_icmp .lt 4, 3) := by decide +kernel
theorem dX6_offer_9 : decode cX6_offer 9 = .ok (.return_, 1) := by decide +kernel
theorem dX6_offer_10 : decode cX6_offer 10 = .ok (.aload_n 0, 1) := by decide +kernel
theorem dX6_offer_11 : decode cX6_offer 11 = .ok (.getfield 15, 3) := by decide +kernel
theorem dX6_offer_14 : decode cX6_offer 14 = .ok (.aload_n 0, 1) := by decide +kernel
theorem dX6_offer_15 : decode cX6_offer 15 = .ok (.getfield 21, 3) := by decide +kernel
theorem dX6_offer_18 : decode cX6_offer 18 = .ok (.iload_n 1, 1) := by decide +kernel
theorem dX6_offer_19 : decode cX6_offer 19 = .ok (.iastore, 1) := by decide +kernel
theorem dX6_offer_20 : decode cX6_offer 20 = .ok (.aload_n 0, 1) := by decide +kernel
theorem dX6_offer_21 : decode cX6_offer 21 = .ok (.getfield 18, 3) := by decide +kernel
theorem dX6_offer_24 : decode cX6_offer 24 = .ok (.aload_n 0, 1) := by decide +kernel
theorem dX6_offer_25 : decode cX6_offer 25 = .ok (.getfield 21, 3) := by decide +kernel
theorem dX6_offer_28 : decode cX6_offer 28 = .ok (.iconst 0, 1) := by decide +kernel
theorem dX6_offer_29 : decode cX6_offer 29 = .ok (.iastore, 1) := by decide +kernel
theorem dX6_offer_30 : decode cX6_offer 30 = .ok (.iconst 0, 1) := by decide +kernel
theorem dX6_offer_31 : decode cX6_offer 31 = .ok (.istore_n 2, 1) := by decide +kernel
theorem dX6_offer_32 : decode cX6_offer 32 = .ok (.iload_n 2, 1) := by decide +kernel
theorem dX6_offer_33 : decode cX6_offer 33 = .ok (.aload_n 0, 1) := by decide +kernel
theorem dX6_offer_34 : decode cX6_offer 34 = .ok (.getfield 21, 3) := by decide +kernel
theorem dX6_offer_37 : decode cX6_offer 37 = .ok (.if_icmp .ge 19, 3) := by decide +kernel
theorem dX6_offer_40 : decode cX6_offer 40 = .ok (.aload_n 0, 1) := by decide +kernel
theorem dX6_offer_41 : decode cX6_offer 41 = .ok (.getfield 15, 3) := by decide +kernel
theorem dX6_offer_44 : decode cX6_offer 44 = .ok (.iload_n 2, 1) := by decide +kernel
theorem dX6_offer_45 : decode cX6_offer 45 = .ok (.iaload, 1) := by decide +kernel
theorem dX6_offer_46 : decode cX6_offer 46 = .ok (.iload_n 1, 1) := by decide +kernel
theorem dX6_offer_47 : decode cX6_offer 47 = .ok (.if_icmp .eq 9, 3) := by decide +kernel
theorem dX6_offer_50 : decode cX6_offer 50 = .ok (.iinc 2 1, 3) := by decide +kernel
theorem dX6_offer_53 : decode cX6_offer 53 = .ok (.goto (-21), 3) := by decide +kernel
theorem dX6_offer_56 : decode cX6_offer 56 = .ok (.aload_n 0, 1) := by decide +kernel
theorem dX6_offer_57 : decode cX6_offer 57 = .ok (.getfield 18, 3) := by decide +kernel
theorem dX6_offer_60 : decode cX6_offer 60 = .ok (.iload_n 2, 1) := by decide +kernel
theorem dX6_offer_61 : decode cX6_offer 61 = .ok (.dup2, 1) := by decide +kernel
theorem dX6_offer_62 : decode cX6_offer 62 = .ok (.iaload, 1) := by decide +kernel
theorem dX6_offer_63 : decode cX6_offer 63 = .ok (.iconst 1, 1) := by decide +kernel
theorem dX6_offer_64 : decode cX6_offer 64 = .ok (.iadd, 1) := by decide +kernel
theorem dX6_offer_65 : decode cX6_offer 65 = .ok (.iastore, 1) := by decide +kernel
theorem dX6_offer_66 : decode cX6_offer 66 = .ok (.aload_n 0, 1) := by decide +kernel
theorem dX6_offer_67 : decode cX6_offer 67 = .ok (.dup, 1) := by decide +kernel
theorem dX6_offer_68 : decode cX6_offer 68 = .ok (.getfield 21, 3) := by decide +kernel
theorem dX6_offer_71 : decode cX6_offer 71 = .ok (.iconst 1, 1) := by decide +kernel
theorem dX6_offer_72 : decode cX6_offer 72 = .ok (.iadd, 1) := by decide +kernel
theorem dX6_offer_73 : decode cX6_offer 73 = .ok (.putfield 21, 3) := by decide +kernel
theorem dX6_offer_76 : decode cX6_offer 76 = .ok (.return_, 1) := by decide +kernel
theorem dX6_choose_0 : decode cX6_choose 0 = .ok (.aload_n 0, 1) := by decide +kernel
theorem dX6_choose_1 : decode cX6_choose 1 = .ok (.iconst 0, 1) := by decide +kernel
theorem dX6_choose_2 : decode cX6_choose 2 = .ok (.putfield 25, 3) := by decide +kernel
theorem dX6_choose_5 : decode cX6_choose 5 = .ok (.iconst 0, 1) := by decide +kernel
theorem dX6_choose_6 : decode cX6_choose 6 = .ok (.istore_n 2, 1) := by decide +kernel
theorem dX6_choose_7 : decode cX6_choose 7 = .ok (.iload_n 2, 1) := by decide +kernel
theorem dX6_choose_8 : decode cX6_choose 8 = .ok (.iload_n 1, 1) := by decide +kernel
theorem dX6_choose_9 : decode cX6_choose 9 = .ok (.if_icmp .ge 51, 3) := by decide +kernel
theorem dX6_choose_12 : decode cX6_choose 12 = .ok (.aload_n 0, 1) := by decide +kernel
theorem dX6_choose_13 : decode cX6_choose 13 = .ok (.invokevirtual 28, 3) := by decide +kernel
theorem dX6_choose_16 : decode cX6_choose 16 = .ok (.istore_n 3, 1) := by decide +kernel
theorem dX6_choose_17 : decode cX6_choose 17 = .ok (.iload_n 3, 1) := by decide +kernel
theorem dX6_choose_18 : decode cX6_choose 18 = .ok (.iconst (-1), 1) := by decide +kernel
theorem dX6_choose_19 : decode cX6_choose 19 = .ok (.if_icmp .eq 35, 3) := by decide +kernel
theorem dX6_choose_22 : decode cX6_choose 22 = .ok (.aload_n 0, 1) := by decide +kernel
theorem dX6_choose_23 : decode cX6_choose 23 = .ok (.getfield 9, 3) := by decide +kernel
theorem dX6_choose_26 : decode cX6_choose 26 = .ok (.aload_n 0, 1) := by decide +kernel
theorem dX6_choose_27 : decode cX6_choose 27 = .ok (.getfield 25, 3) := by decide +kernel
theorem dX6_choose_30 : decode cX6_choose 30 = .ok (.aload_n 0, 1) := by decide +kernel
theorem dX6_choose_31 : decode cX6_choose 31 = .ok (.getfield 15, 3) := by decide +kernel
theorem dX6_choose_34 : decode cX6_choose 34 = .ok (.iload_n 3, 1) := by decide +kernel
theorem dX6_choose_35 : decode cX6_choose 35 = .ok (.iaload, 1) := by decide +kernel
theorem dX6_choose_36 : decode cX6_choose 36 = .ok (.iastore, 1) := by decide +kernel
theorem dX6_choose_37 : decode cX6_choose 37 = .ok (.aload_n 0, 1) := by decide +kernel
theorem dX6_choose_38 : decode cX6_choose 38 = .ok (.dup, 1) := by decide +kernel
theorem dX6_choose_39 : decode cX6_choose 39 = .ok (.getfield 25, 3) := by decide +kernel
theorem dX6_choose_42 : decode cX6_choose 42 = .ok (.iconst 1, 1) := by decide +kernel
theorem dX6_choose_43 : decode cX6_choose 43 = .ok (.iadd, 1) := by decide +kernel
theorem dX6_choose_44 : decode cX6_choose 44 = .ok (.putfield 25, 3) := by decide +kernel
theorem dX6_choose_47 : decode cX6_choose 47 = .ok (.aload_n 0, 1) := by decide +kernel
theorem dX6_choose_48 : decode cX6_choose 48 = .ok (.getfield 18, 3) := by decide +kernel
theorem dX6_choose_51 : decode cX6_choose 51 = .ok (.iload_n 3, 1) := by decide +kernel
theorem dX6_choose_52 : decode cX6_choose 52 = .ok (.iconst 0, 1) := by decide +kernel
theorem dX6_choose_53 : decode cX6_choose 53 = .ok (.iastore, 1) := by decide +kernel
theorem dX6_choose_54 : decode cX6_choose 54 = .ok (.iinc 2 1, 3) := by decide +kernel
theorem dX6_choose_57 : decode cX6_choose 57 = .ok (.goto (-50), 3) := by decide +kernel
theorem dX6_choose_60 : decode cX6_choose 60 = .ok (.aload_n 0, 1) := by decide +kernel
theorem dX6_choose_61 : decode cX6_choose 61 = .ok (.iconst 0, 1) := by decide +kernel
theorem dX6_choose_62 : decode cX6_choose 62 = .ok (.putfield 32, 3) := by decide +kernel
theorem dX6_choose_65 : decode cX6_choose 65 = .ok (.iconst 0, 1) := by decide +kernel
theorem dX6_choose_66 : decode cX6_choose 66 = .ok (.istore_n 2, 1) := by decide +kernel
theorem dX6_choose_67 : decode cX6_choose 67 = .ok (.iload_n 2, 1) := by decide +kernel
theorem dX6_choose_68 : decode cX6_choose 68 = .ok (.aload_n 0, 1) := by decide +kernel
theorem dX6_choose_69 : decode cX6_choose 69 = .ok (.getfield 21, 3) := by decide +kernel
theorem dX6_choose_72 : decode cX6_choose 72 = .ok (.if_icmp .ge 35, 3) := by decide +kernel
theorem dX6_choose_75 : decode cX6_choose 75 = .ok (.aload_n 0, 1) := by decide +kernel
theorem dX6_choose_76 : decode cX6_choose 76 = .ok (.aload_n 0, 1) := by decide +kernel
theorem dX6_choose_77 : decode cX6_choose 77 = .ok (.getfield 15, 3) := by decide +kernel
theorem dX6_choose_80 : decode cX6_choose 80 = .ok (.iload_n 2, 1) := by decide +kernel
theorem dX6_choose_81 : decode cX6_choose 81 = .ok (.iaload, 1) := by decide +kernel
theorem dX6_choose_82 : decode cX6_choose 82 = .ok (.invokevirtual 35, 3) := by decide +kernel
theorem dX6_choose_85 : decode cX6_choose 85 = .ok (.iconst (-1), 1) := by decide +kernel
theorem dX6_choose_86 : decode cX6_choose 86 = .ok (.if_icmp .ne 15, 3) := by decide +kernel
theorem dX6_choose_89 : decode cX6_choose 89 = .ok (.aload_n 0, 1) := by decide +kernel
theorem dX6_choose_90 : decode cX6_choose 90 = .ok (.dup, 1) := by decide +kernel
theorem dX6_choose_91 : decode cX6_choose 91 = .ok (.getfield 32, 3) := by decide +kernel
theorem dX6_choose_94 : decode cX6_choose 94 = .ok (.iconst 1, 1) := by decide +kernel
theorem dX6_choose_95 : decode cX6_choose 95 = .ok (.iload_n 2, 1) := by decide +kernel
theorem dX6_choose_96 : decode cX6_choose 96 = .ok (.ishl, 1) := by decide +kernel
theorem dX6_choose_97 : decode cX6_choose 97 = .ok (.ior, 1) := by decide +kernel
theorem dX6_choose_98 : decode cX6_choose 98 = .ok (.putfield 32, 3) := by decide +kernel
theorem dX6_choose_101 : decode cX6_choose 101 = .ok (.iinc 2 1, 3) := by decide +kernel
theorem dX6_choose_104 : decode cX6_choose 104 = .ok (.goto (-37), 3) := by decide +kernel
theorem dX6_choose_107 : decode cX6_choose 107 = .ok (.return_, 1) := by decide +kernel
theorem dX6_mostOften_0 : decode cX6_mostOften 0 = .ok (.iconst (-1), 1) := by decide +kernel
theorem dX6_mostOften_1 : decode cX6_mostOften 1 = .ok (.istore_n 1, 1) := by decide +kernel
theorem dX6_mostOften_2 : decode cX6_mostOften 2 = .ok (.iconst 0, 1) := by decide +kernel
theorem dX6_mostOften_3 : decode cX6_mostOften 3 = .ok (.istore_n 2, 1) := by decide +kernel
theorem dX6_mostOften_4 : decode cX6_mostOften 4 = .ok (.iconst 0, 1) := by decide +kernel
theorem dX6_mostOften_5 : decode cX6_mostOften 5 = .ok (.istore_n 3, 1) := by decide +kernel
theorem dX6_mostOften_6 : decode cX6_mostOften 6 = .ok (.iload_n 3, 1) := by decide +kernel
theorem dX6_mostOften_7 : decode cX6_mostOften 7 = .ok (.aload_n 0, 1) := by decide +kernel
theorem dX6_mostOften_8 : decode cX6_mostOften 8 = .ok (.getfield 21, 3) := by decide +kernel
theorem dX6_mostOften_11 : decode cX6_mostOften 11 = .ok (.if_icmp .ge 28, 3) := by decide +kernel
theorem dX6_mostOften_14 : decode cX6_mostOften 14 = .ok (.aload_n 0, 1) := by decide +kernel
theorem dX6_mostOften_15 : decode cX6_mostOften 15 = .ok (.getfield 18, 3) := by decide +kernel
theorem dX6_mostOften_18 : decode cX6_mostOften 18 = .ok (.iload_n 3, 1) := by decide +kernel
theorem dX6_mostOften_19 : decode cX6_mostOften 19 = .ok (.iaload, 1) := by decide +kernel
theorem dX6_mostOften_20 : decode cX6_mostOften 20 = .ok (.iload_n 2, 1) := by decide +kernel
theorem dX6_mostOften_21 : decode cX6_mostOften 21 = .ok (.if_icmp .le 12, 3) := by decide +kernel
theorem dX6_mostOften_24 : decode cX6_mostOften 24 = .ok (.aload_n 0, 1) := by decide +kernel
theorem dX6_mostOften_25 : decode cX6_mostOften 25 = .ok (.getfield 18, 3) := by decide +kernel
theorem dX6_mostOften_28 : decode cX6_mostOften 28 = .ok (.iload_n 3, 1) := by decide +kernel
theorem dX6_mostOften_29 : decode cX6_mostOften 29 = .ok (.iaload, 1) := by decide +kernel
theorem dX6_mostOften_30 : decode cX6_mostOften 30 = .ok (.istore_n 2, 1) := by decide +kernel
theorem dX6_mostOften_31 : decode cX6_mostOften 31 = .ok (.iload_n 3, 1) := by decide +kernel
theorem dX6_mostOften_32 : decode cX6_mostOften 32 = .ok (.istore_n 1, 1) := by decide +kernel
theorem dX6_mostOften_33 : decode cX6_mostOften 33 = .ok (.iinc 3 1, 3) := by decide +kernel
theorem dX6_mostOften_36 : decode cX6_mostOften 36 = .ok (.goto (-30), 3) := by decide +kernel
theorem dX6_mostOften_39 : decode cX6_mostOften 39 = .ok (.iload_n 1, 1) := by decide +kernel
theorem dX6_mostOften_40 : decode cX6_mostOften 40 = .ok (.ireturn, 1) := by decide +kernel
theorem dX6_codeOf_0 : decode cX6_codeOf 0 = .ok (.iconst 0, 1) := by decide +kernel
theorem dX6_codeOf_1 : decode cX6_codeOf 1 = .ok (.istore_n 2, 1) := by decide +kernel
theorem dX6_codeOf_2 : decode cX6_codeOf 2 = .ok (.iload_n 2, 1) := by decide +kernel
theorem dX6_codeOf_3 : decode cX6_codeOf 3 = .ok (.aload_n 0, 1) := by decide +kernel
theorem dX6_codeOf_4 : decode cX6_codeOf 4 = .ok (.getfield 25, 3) := by decide +kernel
theorem dX6_codeOf_7 : decode cX6_codeOf 7 = .ok (.if_icmp .ge 21, 3) := by decide +kernel
theorem dX6_codeOf_10 : decode cX6_codeOf 10 = .ok (.aload_n 0, 1) := by decide +kernel
theorem dX6_codeOf_11 : decode cX6_codeOf 11 = .ok (.getfield 9, 3) := by decide +kernel
theorem dX6_codeOf_14 : decode cX6_codeOf 14 = .ok (.iload_n 2, 1) := by decide +kernel
theorem dX6_codeOf_15 : decode cX6_codeOf 15 = .ok (.iaload, 1) := by decide +kernel
theorem dX6_codeOf_16 : decode cX6_codeOf 16 = .ok (.iload_n 1, 1) := by decide +kernel
theorem dX6_codeOf_17 : decode cX6_codeOf 17 = .ok (.if_icmp .ne 5, 3) := by decide +kernel
theorem dX6_codeOf_20 : decode cX6_codeOf 20 = .ok (.iload_n 2, 1) := by decide +kernel
theorem dX6_codeOf_21 : decode cX6_codeOf 21 = .ok (.ireturn, 1) := by decide +kernel
theorem dX6_codeOf_22 : decode cX6_codeOf 22 = .ok (.iinc 2 1, 3) := by decide +kernel
theorem dX6_codeOf_25 : decode cX6_codeOf 25 = .ok (.goto (-23), 3) := by decide +kernel
theorem dX6_codeOf_28 : decode cX6_codeOf 28 = .ok (.iconst (-1), 1) := by decide +kernel
theorem dX6_codeOf_29 : decode cX6_codeOf 29 = .ok (.ireturn, 1) := by decide +kernel
theorem dX6_codeBits_0 : decode cX6_codeBits 0 = .ok (.aload_n 0, 1) := by decide +kernel
theorem dX6_codeBits_1 : decode cX6_codeBits 1 = .ok (.getfield 25, 3) := by decide +kernel
theorem dX6_codeBits_4 : decode cX6_codeBits 4 = .ok (.iconst 1, 1) := by decide +kernel
theorem dX6_codeBits_5 : decode cX6_codeBits 5 = .ok (.isub, 1) := by decide +kernel
theorem dX6_codeBits_6 : decode cX6_codeBits 6 = .ok (.i2l, 1) := by decide +kernel
theorem dX6_codeBits_7 : decode cX6_codeBits 7 = .ok (.invokestatic 39, 3) := by decide +kernel
theorem dX6_codeBits_10 : decode cX6_codeBits 10 = .ok (.ireturn, 1) := by decide +kernel
theorem dX7_init_0 : decode cX7_init 0 = .ok (.aload_n 0, 1) := by decide +kernel
theorem dX7_init_1 : decode cX7_init 1 = .ok (.invokespecial 3, 3) := by decide +kernel
theorem dX7_init_4 : decode cX7_init 4 = .ok (.aload_n 0, 1) := by decide +kernel
theorem dX7_init_5 : decode cX7_init 5 = .ok (.bipush 40, 2) := by decide +kernel
theorem dX7_init_7 : decode cX7_init 7 = .ok (.anewarray 9, 3) := by decide +kernel
theorem dX7_init_10 : decode cX7_init 10 = .ok (.putfield 11, 3) := by decide +kernel
theorem dX7_init_13 : decode cX7_init 13 = .ok (.iconst 0, 1) := by decide +kernel
theorem dX7_init_14 : decode cX7_init 14 = .ok (.istore_n 1, 1) := by decide +kernel
theorem dX7_init_15 : decode cX7_init 15 = .ok (.iload_n 1, 1) := by decide +kernel
theorem dX7_init_16 : decode cX7_init 16 = .ok (.bipush 40, 2) := by decide +kernel
theorem dX7_init_18 : decode cX7_init 18 = .ok (.if_icmp .ge 22, 3) := by decide +kernel
theorem dX7_init_21 : decode cX7_init 21 = .ok (.aload_n 0, 1) := by decide +kernel
theorem dX7_init_22 : decode cX7_init 22 = .ok (.getfield 11, 3) := by decide +kernel
theorem dX7_init_25 : decode cX7_init 25 = .ok (.iload_n 1, 1) := by decide +kernel
theorem dX7_init_26 : decode cX7_init 26 = .ok (.new 9, 3) := by decide +kernel
theorem dX7_init_29 : decode cX7_init 29 = .ok (.dup, 1) := by decide +kernel
theorem dX7_init_30 : decode cX7_init 30 = .ok (.invokespecial 17, 3) := by decide +kernel
theorem dX7_init_33 : decode cX7_init 33 = .ok (.aastore, 1) := by decide +kernel
theorem dX7_init_34 : decode cX7_init 34 = .ok (.iinc 1 1, 3) := by decide +kernel
theorem dX7_init_37 : decode cX7_init 37 = .ok (.goto (-22), 3) := by decide +kernel
theorem dX7_init_40 : decode cX7_init 40 = .ok (.return_, 1) := by decide +kernel
theorem dX7_keep_0 : decode cX7_keep 0 = .ok (.aload_n 0, 1) := by decide +kernel
theorem dX7_keep_1 : decode cX7_keep 1 = .ok (.getfield 11, 3) := by decide +kernel
theorem dX7_keep_4 : decode cX7_keep 4 = .ok (.aload_n 0, 1) := by decide +kernel
theorem dX7_keep_5 : decode cX7_keep 5 = .ok (.getfield 18, 3) := by decide +kernel
theorem dX7_keep_8 : decode cX7_keep 8 = .ok (.aaload, 1) := by decide +kernel
theorem dX7_keep_9 : decode cX7_keep 9 = .ok (.aload_n 1, 1) := by decide +kernel
theorem dX7_keep_10 : decode cX7_keep 10 = .ok (.invokevirtual 22, 3) := by decide +kernel
theorem dX7_keep_13 : decode cX7_keep 13 = .ok (.aload_n 0, 1) := by decide +kernel
theorem dX7_keep_14 : decode cX7_keep 14 = .ok (.aload_n 0, 1) := by decide +kernel
theorem dX7_keep_15 : decode cX7_keep 15 = .ok (.getfield 18, 3) := by decide +kernel
theorem dX7_keep_18 : decode cX7_keep 18 = .ok (.iconst 1, 1) := by decide +kernel
theorem dX7_keep_19 : decode cX7_keep 19 = .ok (.iadd, 1) := by decide +kernel
theorem dX7_keep_20 : decode cX7_keep 20 = .ok (.bipush 40, 2) := by decide +kernel
theorem dX7_keep_22 : decode cX7_keep 22 = .ok (.irem, 1) := by decide +kernel
theorem dX7_keep_23 : decode cX7_keep 23 = .ok (.putfield 18, 3) := by decide +kernel
theorem dX7_keep_26 : decode cX7_keep 26 = .ok (.aload_n 0, 1) := by decide +kernel
theorem dX7_keep_27 : decode cX7_keep 27 = .ok (.getfield 26, 3) := by decide +kernel
theorem dX7_keep_30 : decode cX7_keep 30 = .ok (.bipush 40, 2) := by decide +kernel
theorem dX7_keep_32 : decode cX7_keep 32 = .ok (.if_icmp .ge 13, 3) := by decide +kernel
theorem dX7_keep_35 : decode cX7_keep 35 = .ok (.aload_n 0, 1) := by decide +kernel
theorem dX7_keep_36 : decode cX7_keep 36 = .ok (.dup, 1) := by decide +kernel
theorem dX7_keep_37 : decode cX7_keep 37 = .ok (.getfield 26, 3) := by decide +kernel
theorem dX7_keep_40 : decode cX7_keep 40 = .ok (.iconst 1, 1) := by decide +kernel
theorem dX7_keep_41 : decode cX7_keep 41 = .ok (.iadd, 1) := by decide +kernel
theorem dX7_keep_42 : decode cX7_keep 42 = .ok (.putfield 26, 3) := by decide +kernel
theorem dX7_keep_45 : decode cX7_keep 45 = .ok (.return_, 1) := by decide +kernel
theorem dX7_restore_0 : decode cX7_restore 0 = .ok (.aload_n 0, 1) := by decide +kernel
theorem dX7_restore_1 : decode cX7_restore 1 = .ok (.aload_n 0, 1) := by decide +kernel
theorem dX7_restore_2 : decode cX7_restore 2 = .ok (.getfield 18, 3) := by decide +kernel
theorem dX7_restore_5 : decode cX7_restore 5 = .ok (.bipush 40, 2) := by decide +kernel
theorem dX7_restore_7 : decode cX7_restore 7 = .ok (.iadd, 1) := by decide +kernel
theorem dX7_restore_8 : decode cX7_restore 8 = .ok (.iconst 1, 1) := by decide +kernel
theorem dX7_restore_9 : decode cX7_restore 9 = .ok (.isub, 1) := by decide +kernel
theorem dX7_restore_10 : decode cX7_restore 10 = .ok (.bipush 40, 2) := by decide +kernel
theorem dX7_restore_12 : decode cX7_restore 12 = .ok (.irem, 1) := by decide +kernel
theorem dX7_restore_13 : decode cX7_restore 13 = .ok (.putfield 18, 3) := by decide +kernel
theorem dX7_restore_16 : decode cX7_restore 16 = .ok (.aload_n 0, 1) := by decide +kernel
theorem dX7_restore_17 : decode cX7_restore 17 = .ok (.dup, 1) := by decide +kernel
theorem dX7_restore_18 : decode cX7_restore 18 = .ok (.getfield 26, 3) := by decide +kernel
theorem dX7_restore_21 : decode cX7_restore 21 = .ok (.iconst 1, 1) := by decide +kernel
theorem dX7_restore_22 : decode cX7_restore 22 = .ok (.isub, 1) := by decide +kernel
theorem dX7_restore_23 : decode cX7_restore 23 = .ok (.putfield 26, 3) := by decide +kernel
theorem dX7_restore_26 : decode cX7_restore 26 = .ok (.aload_n 1, 1) := by decide +kernel
theorem dX7_restore_27 : decode cX7_restore 27 = .ok (.aload_n 0, 1) := by decide +kernel
theorem dX7_restore_28 : decode cX7_restore 28 = .ok (.getfield 11, 3) := by decide +kernel
theorem dX7_restore_31 : decode cX7_restore 31 = .ok (.aload_n 0, 1) := by decide +kernel
theorem dX7_restore_32 : decode cX7_restore 32 = .ok (.getfield 18, 3) := by decide +kernel
theorem dX7_restore_35 : decode cX7_restore 35 = .ok (.aaload, 1) := by decide +kernel
theorem dX7_restore_36 : decode cX7_restore 36 = .ok (.invokevirtual 22, 3) := by decide +kernel
theorem dX7_restore_39 : decode cX7_restore 39 = .ok (.return_, 1) := by decide +kernel
theorem dX9_init_0 : decode cX9_init 0 = .ok (.aload_n 0, 1) := by decide +kernel
theorem dX9_init_1 : decode cX9_init 1 = .ok (.invokespecial 3, 3) := by decide +kernel
theorem dX9_init_4 : decode cX9_init 4 = .ok (.aload_n 0, 1) := by decide +kernel
theorem dX9_init_5 : decode cX9_init 5 = .ok (.new 9, 3) := by decide +kernel
theorem dX9_init_8 : decode cX9_init 8 = .ok (.dup, 1) := by decide +kernel
theorem dX9_init_9 : decode cX9_init 9 = .ok (.invokespecial 11, 3) := by decide +kernel
theorem dX9_init_12 : decode cX9_init 12 = .ok (.putfield 12, 3) := by decide +kernel
theorem dX9_init_15 : decode cX9_init 15 = .ok (.aload_n 0, 1) := by decide +kernel
theorem dX9_init_16 : decode cX9_init 16 = .ok (.iconst 5, 1) := by decide +kernel
theorem dX9_init_17 : decode cX9_init 17 = .ok (.newarray .boolean, 2) := by decide +kernel
theorem dX9_init_19 : decode cX9_init 19 = .ok (.putfield 18, 3) := by decide +kernel
theorem dX9_init_22 : decode cX9_init 22 = .ok (.aload_n 0, 1) := by decide +kernel
theorem dX9_init_23 : decode cX9_init 23 = .ok (.aload_n 1, 1) := by decide +kernel
theorem dX9_init_24 : decode cX9_init 24 = .ok (.putfield 22, 3) := by decide +kernel
theorem dX9_init_27 : decode cX9_init 27 = .ok (.aload_n 0, 1) := by decide +kernel
theorem dX9_init_28 : decode cX9_init 28 = .ok (.aload_n 2, 1) := by decide +kernel
theorem dX9_init_29 : decode cX9_init 29 = .ok (.putfield 26, 3) := by decide +kernel
theorem dX9_init_32 : decode cX9_init 32 = .ok (.return_, 1) := by decide +kernel
theorem dX9_read_0 : decode cX9_read 0 = .ok (.aload_n 0, 1) := by decide +kernel
theorem dX9_read_1 : decode cX9_read 1 = .ok (.getfield 12, 3) := by decide +kernel
theorem dX9_read_4 : decode cX9_read 4 = .ok (.invokevirtual 30, 3) := by decide +kernel
theorem dX9_read_7 : decode cX9_read 7 = .ok (.aload_n 0, 1) := by decide +kernel
theorem dX9_read_8 : decode cX9_read 8 = .ok (.iconst 0, 1) := by decide +kernel
theorem dX9_read_9 : decode cX9_read 9 = .ok (.putfield 33, 3) := by decide +kernel
theorem dX9_read_12 : decode cX9_read 12 = .ok (.aload_n 0, 1) := by decide +kernel
theorem dX9_read_13 : decode cX9_read 13 = .ok (.iconst 0, 1) := by decide +kernel
theorem dX9_read_14 : decode cX9_read 14 = .ok (.putfield 37, 3) := by decide +kernel
theorem dX9_read_17 : decode cX9_read 17 = .ok (.iconst 0, 1) := by decide +kernel
theorem dX9_read_18 : decode cX9_read 18 = .ok (.istore_n 1, 1) := by decide +kernel
theorem dX9_read_19 : decode cX9_read 19 = .ok (.iload_n 1, 1) := by decide +kernel
theorem dX9_read_20 : decode cX9_read 20 = .ok (.bipush 41, 2) := by decide +kernel
theorem dX9_read_22 : decode cX9_read 22 = .ok (.if_icmp .gt 69, 3) := by decide +kernel
theorem dX9_read_25 : decode cX9_read 25 = .ok (.aload_n 0, 1) := by decide +kernel
theorem dX9_read_26 : decode cX9_read 26 = .ok (.invokevirtual 41, 3) := by decide +kernel
theorem dX9_read_29 : decode cX9_read 29 = .ok (.aload_n 0, 1) := by decide +kernel
theorem dX9_read_30 : decode cX9_read 30 = .ok (.invokevirtual 44, 3) := by decide +kernel
theorem dX9_read_33 : decode cX9_read 33 = .ok (.ifCond .ne 8, 3) := by decide +kernel
theorem dX9_read_36 : decode cX9_read 36 = .ok (.aload_n 0, 1) := by decide +kernel
theorem dX9_read_37 : decode cX9_read 37 = .ok (.getfield 37, 3) := by decide +kernel
theorem dX9_read_40 : decode cX9_read 40 = .ok (.ireturn, 1) := by decide +kernel
theorem dX9_read_41 : decode cX9_read 41 = .ok (.aload_n 0, 1) := by decide +kernel
theorem dX9_read_42 : decode cX9_read 42 = .ok (.invokevirtual 41, 3) := by decide +kernel
theorem dX9_read_45 : decode cX9_read 45 = .ok (.aload_n 0, 1) := by decide +kernel
theorem dX9_read_46 : decode cX9_read 46 = .ok (.getfield 37, 3) := by decide +kernel
theorem dX9_read_49 : decode cX9_read 49 = .ok (.aload_n 0, 1) := by decide +kernel
theorem dX9_read_50 : decode cX9_read 50 = .ok (.getfield 22, 3) := by decide +kernel
theorem dX9_read_53 : decode cX9_read 53 = .ok (.getfield 48, 3) := by decide +kernel
theorem dX9_read_56 : decode cX9_read 56 = .ok (.if_icmp .lt 5, 3) := by decide +kernel
theorem dX9_read_59 : decode cX9_read 59 = .ok (.iconst (-1), 1) := by decide +kernel
theorem dX9_read_60 : decode cX9_read 60 = .ok (.ireturn, 1) := by decide +kernel
theorem dX9_read_61 : decode cX9_read 61 = .ok (.aload_n 0, 1) := by decide +kernel
theorem dX9_read_62 : decode cX9_read 62 = .ok (.invokevirtual 53, 3) := by decide +kernel
theorem dX9_read_65 : decode cX9_read 65 = .ok (.bipush 59, 2) := by decide +kernel
theorem dX9_read_67 : decode cX9_read 67 = .ok (.if_icmp .eq 8, 3) := by decide +kernel
theorem dX9_read_70 : decode cX9_read 70 = .ok (.aload_n 0, 1) := by decide +kernel
theorem dX9_read_71 : decode cX9_read 71 = .ok (.getfield 37, 3) := by decide +kernel
theorem dX9_read_74 : decode cX9_read 74 = .ok (.ireturn, 1) := by decide +kernel
theorem dX9_read_75 : decode cX9_read 75 = .ok (.aload_n 0, 1) := by decide +kernel
theorem dX9_read_76 : decode cX9_read 76 = .ok (.dup, 1) := by decide +kernel
theorem dX9_read_77 : decode cX9_read 77 = .ok (.getfield 37, 3) := by decide +kernel
theorem dX9_read_80 : decode cX9_read 80 = .ok (.iconst 1, 1) := by decide +kernel
theorem dX9_read_81 : decode cX9_read 81 = .ok (.iadd, 1) := by decide +kernel
theorem dX9_read_82 : decode cX9_read 82 = .ok (.putfield 37, 3) := by decide +kernel
theorem dX9_read_85 : decode cX9_read 85 = .ok (.iinc 1 1, 3) := by decide +kernel
theorem dX9_read_88 : decode cX9_read 88 = .ok (.goto (-69), 3) := by decide +kernel
theorem dX9_read_91 : decode cX9_read 91 = .ok (.aload_n 0, 1) := by decide +kernel
theorem dX9_read_92 : decode cX9_read 92 = .ok (.getfield 37, 3) := by decide +kernel
theorem dX9_read_95 : decode cX9_read 95 = .ok (.ireturn, 1) := by decide +kernel
theorem dX9_sign_0 : decode cX9_sign 0 = .ok (.aload_n 0, 1) := by decide +kernel
theorem dX9_sign_1 : decode cX9_sign 1 = .ok (.getfield 37, 3) := by decide +kernel
theorem dX9_sign_4 : decode cX9_sign 4 = .ok (.aload_n 0, 1) := by decide +kernel
theorem dX9_sign_5 : decode cX9_sign 5 = .ok (.getfield 22, 3) := by decide +kernel
theorem dX9_sign_8 : decode cX9_sign 8 = .ok (.getfield 48, 3) := by decide +kernel
theorem dX9_sign_11 : decode cX9_sign 11 = .ok (.if_icmp .ge 18, 3) := by decide +kernel
theorem dX9_sign_14 : decode cX9_sign 14 = .ok (.aload_n 0, 1) := by decide +kernel
theorem dX9_sign_15 : decode cX9_sign 15 = .ok (.getfield 22, 3) := by decide +kernel
theorem dX9_sign_18 : decode cX9_sign 18 = .ok (.getfield 57, 3) := by decide +kernel
theorem dX9_sign_21 : decode cX9_sign 21 = .ok (.aload_n 0, 1) := by decide +kernel
theorem dX9_sign_22 : decode cX9_sign 22 = .ok (.getfield 37, 3) := by decide +kernel
theorem dX9_sign_25 : decode cX9_sign 25 = .ok (.iaload, 1) := by decide +kernel
theorem dX9_sign_26 : decode cX9_sign 26 = .ok (.goto 4, 3) := by decide +kernel
theorem dX9_sign_29 : decode cX9_sign 29 = .ok (.iconst 0, 1) := by decide +kernel
theorem dX9_sign_30 : decode cX9_sign 30 = .ok (.ireturn, 1) := by decide +kernel
theorem dX9_skipBlanks_0 : decode cX9_skipBlanks 0 = .ok (.aload_n 0, 1) := by decide +kernel
theorem dX9_skipBlanks_1 : decode cX9_skipBlanks 1 = .ok (.getfield 37, 3) := by decide +kernel
theorem dX9_skipBlanks_4 : decode cX9_skipBlanks 4 = .ok (.aload_n 0, 1) := by decide +kernel
theorem dX9_skipBlanks_5 : decode cX9_skipBlanks 5 = .ok (.getfield 22, 3) := by decide +kernel
theorem dX9_skipBlanks_8 : decode cX9_skipBlanks 8 = .ok (.getfield 48, 3) := by decide +kernel
theorem dX9_skipBlanks_11 : decode cX9_skipBlanks 11 = .ok (.if_icmp .ge 33, 3) := by decide +kernel
theorem dX9_skipBlanks_14 : decode cX9_skipBlanks 14 = .ok (.aload_n 0, 1) := by decide +kernel
theorem dX9_skipBlanks_15 : decode cX9_skipBlanks 15 = .ok (.getfield 22, 3) := by decide +kernel
theorem dX9_skipBlanks_18 : decode cX9_skipBlanks 18 = .ok (.getfield 57, 3) := by decide +kernel
theorem dX9_skipBlanks_21 : decode cX9_skipBlanks 21 = .ok (.aload_n 0, 1) := by decide +kernel
theorem dX9_skipBlanks_22 : decode cX9_skipBlanks 22 = .ok (.getfield 37, 3) := by decide +kernel
theorem dX9_skipBlanks_25 : decode cX9_skipBlanks 25 = .ok (.iaload, 1) := by decide +kernel
theorem dX9_skipBlanks_26 : decode cX9_skipBlanks 26 = .ok (.bipush 32, 2) := by decide +kernel
theorem dX9_skipBlanks_28 : decode cX9_skipBlanks 28 = .ok (.if_icmp .ne 16, 3) := by decide +kernel
theorem dX9_skipBlanks_31 : decode cX9_skipBlanks 31 = .ok (.aload_n 0, 1) := by decide +kernel
theorem dX9_skipBlanks_32 : decode cX9_skipBlanks 32 = .ok (.dup, 1) := by decide +kernel
theorem dX9_skipBlanks_33 : decode cX9_skipBlanks 33 = .ok (.getfield 37, 3) := by decide +kernel
theorem dX9_skipBlanks_36 : decode cX9_skipBlanks 36 = .ok (.iconst 1, 1) := by decide +kernel
theorem dX9_skipBlanks_37 : decode cX9_skipBlanks 37 = .ok (.iadd, 1) := by decide +kernel
theorem dX9_skipBlanks_38 : decode cX9_skipBlanks 38 = .ok (.putfield 37, 3) := by decide +kernel
theorem dX9_skipBlanks_41 : decode cX9_skipBlanks 41 = .ok (.goto (-41), 3) := by decide +kernel
theorem dX9_skipBlanks_44 : decode cX9_skipBlanks 44 = .ok (.return_, 1) := by decide +kernel
theorem dX9_clauseIn_0 : decode cX9_clauseIn 0 = .ok (.aload_n 0, 1) := by decide +kernel
theorem dX9_clauseIn_1 : decode cX9_clauseIn 1 = .ok (.invokevirtual 53, 3) := by decide +kernel
theorem dX9_clauseIn_4 : decode cX9_clauseIn 4 = .ok (.bipush 115, 2) := by decide +kernel
theorem dX9_clauseIn_6 : decode cX9_clauseIn 6 = .ok (.if_icmp .ne 23, 3) := by decide +kernel
theorem dX9_clauseIn_9 : decode cX9_clauseIn 9 = .ok (.aload_n 0, 1) := by decide +kernel
theorem dX9_clauseIn_10 : decode cX9_clauseIn 10 = .ok (.getfield 33, 3) := by decide +kernel
theorem dX9_clauseIn_13 : decode cX9_clauseIn 13 = .ok (.ifCond .ne 14, 3) := by decide +kernel
theorem dX9_clauseIn_16 : decode cX9_clauseIn 16 = .ok (.aload_n 0, 1) := by decide +kernel
theorem dX9_clauseIn_17 : decode cX9_clauseIn 17 = .ok (.invokevirtual 61, 3) := by decide +kernel
theorem dX9_clauseIn_20 : decode cX9_clauseIn 20 = .ok (.ifCond .eq 7, 3) := by decide +kernel
theorem dX9_clauseIn_23 : decode cX9_clauseIn 23 = .ok (.iconst 1, 1) := by decide +kernel
theorem dX9_clauseIn_24 : decode cX9_clauseIn 24 = .ok (.goto 4, 3) := by decide +kernel
theorem dX9_clauseIn_27 : decode cX9_clauseIn 27 = .ok (.iconst 0, 1) := by decide +kernel
theorem dX9_clauseIn_28 : decode cX9_clauseIn 28 = .ok (.ireturn, 1) := by decide +kernel
theorem dX9_clauseIn_29 : decode cX9_clauseIn 29 = .ok (.aload_n 0, 1) := by decide +kernel
theorem dX9_clauseIn_30 : decode cX9_clauseIn 30 = .ok (.getfield 12, 3) := by decide +kernel
theorem dX9_clauseIn_33 : decode cX9_clauseIn 33 = .ok (.getfield 64, 3) := by decide +kernel
theorem dX9_clauseIn_36 : decode cX9_clauseIn 36 = .ok (.bipush 40, 2) := by decide +kernel
theorem dX9_clauseIn_38 : decode cX9_clauseIn 38 = .ok (.if_icmp .ge 14, 3) := by decide +kernel
theorem dX9_clauseIn_41 : decode cX9_clauseIn 41 = .ok (.aload_n 0, 1) := by decide +kernel
theorem dX9_clauseIn_42 : decode cX9_clauseIn 42 = .ok (.invokevirtual 67, 3) := by decide +kernel
theorem dX9_clauseIn_45 : decode cX9_clauseIn 45 = .ok (.ifCond .eq 7, 3) := by decide +kernel
theorem dX9_clauseIn_48 : decode cX9_clauseIn 48 = .ok (.iconst 1, 1) := by decide +kernel
theorem dX9_clauseIn_49 : decode cX9_clauseIn 49 = .ok (.goto 4, 3) := by decide +kernel
theorem dX9_clauseIn_52 : decode cX9_clauseIn 52 = .ok (.iconst 0, 1) := by decide +kernel
theorem dX9_clauseIn_53 : decode cX9_clauseIn 53 = .ok (.ireturn, 1) := by decide +kernel
theorem dX9_rulesIn_0 : decode cX9_rulesIn 0 = .ok (.aload_n 0, 1) := by decide +kernel
theorem dX9_rulesIn_1 : decode cX9_rulesIn 1 = .ok (.iconst 1, 1) := by decide +kernel
theorem dX9_rulesIn_2 : decode cX9_rulesIn 2 = .ok (.putfield 33, 3) := by decide +kernel
theorem dX9_rulesIn_5 : decode cX9_rulesIn 5 = .ok (.aload_n 0, 1) := by decide +kernel
theorem dX9_rulesIn_6 : decode cX9_rulesIn 6 = .ok (.dup, 1) := by decide +kernel
theorem dX9_rulesIn_7 : decode cX9_rulesIn 7 = .ok (.getfield 37, 3) := by decide +kernel
theorem dX9_rulesIn_10 : decode cX9_rulesIn 10 = .ok (.iconst 1, 1) := by decide +kernel
theorem dX9_rulesIn_11 : decode cX9_rulesIn 11 = .ok (.iadd, 1) := by decide +kernel
theorem dX9_rulesIn_12 : decode cX9_rulesIn 12 = .ok (.putfield 37, 3) := by decide +kernel
theorem dX9_rulesIn_15 : decode cX9_rulesIn 15 = .ok (.iconst 0, 1) := by decide +kernel
theorem dX9_rulesIn_16 : decode cX9_rulesIn 16 = .ok (.istore_n 1, 1) := by decide +kernel
theorem dX9_rulesIn_17 : decode cX9_rulesIn 17 = .ok (.iload_n 1, 1) := by decide +kernel
theorem dX9_rulesIn_18 : decode cX9_rulesIn 18 = .ok (.iconst 5, 1) := by decide +kernel
theorem dX9_rulesIn_19 : decode cX9_rulesIn 19 = .ok (.if_icmp .ge 16, 3) := by decide +kernel
theorem dX9_rulesIn_22 : decode cX9_rulesIn 22 = .ok (.aload_n 0, 1) := by decide +kernel
theorem dX9_rulesIn_23 : decode cX9_rulesIn 23 = .ok (.getfield 18, 3) := by decide +kernel
theorem dX9_rulesIn_26 : decode cX9_rulesIn 26 = .ok (.iload_n 1, 1) := by decide +kernel
theorem dX9_rulesIn_27 : decode cX9_rulesIn 27 = .ok (.iconst 0, 1) := by decide +kernel
theorem dX9_rulesIn_28 : decode cX9_rulesIn 28 = .ok (.bastore, 1) := by decide +kernel
theorem dX9_rulesIn_29 : decode cX9_rulesIn 29 = .ok (.iinc 1 1, 3) := by decide +kernel
theorem dX9_rulesIn_32 : decode cX9_rulesIn 32 = .ok (.goto (-15), 3) := by decide +kernel
theorem dX9_rulesIn_35 : decode cX9_rulesIn 35 = .ok (.iconst 0, 1) := by decide +kernel
theorem dX9_rulesIn_36 : decode cX9_rulesIn 36 = .ok (.istore_n 1, 1) := by decide +kernel
theorem dX9_rulesIn_37 : decode cX9_rulesIn 37 = .ok (.iload_n 1, 1) := by decide +kernel
theorem dX9_rulesIn_38 : decode cX9_rulesIn 38 = .ok (.iconst 5, 1) := by decide +kernel
theorem dX9_rulesIn_39 : decode cX9_rulesIn 39 = .ok (.if_icmp .gt 70, 3) := by decide +kernel
theorem dX9_rulesIn_42 : decode cX9_rulesIn 42 = .ok (.aload_n 0, 1) := by decide +kernel
theorem dX9_rulesIn_43 : decode cX9_rulesIn 43 = .ok (.invokevirtual 41, 3) := by decide +kernel
theorem dX9_rulesIn_46 : decode cX9_rulesIn 46 = .ok (.aload_n 0, 1) := by decide +kernel
theorem dX9_rulesIn_47 : decode cX9_rulesIn 47 = .ok (.invokevirtual 53, 3) := by decide +kernel
theorem dX9_rulesIn_50 : decode cX9_rulesIn 50 = .ok (.invokestatic 70, 3) := by decide +kernel
theorem dX9_rulesIn_53 : decode cX9_rulesIn 53 = .ok (.istore_n 2, 1) := by decide +kernel
theorem dX9_rulesIn_54 : decode cX9_rulesIn 54 = .ok (.iload_n 2, 1) := by decide +kernel
theorem dX9_rulesIn_55 : decode cX9_rulesIn 55 = .ok (.iconst (-1), 1) := by decide +kernel
theorem dX9_rulesIn_56 : decode cX9_rulesIn 56 = .ok (.if_icmp .ne 5, 3) := by decide +kernel
theorem dX9_rulesIn_59 : decode cX9_rulesIn 59 = .ok (.iconst 1, 1) := by decide +kernel
theorem dX9_rulesIn_60 : decode cX9_rulesIn 60 = .ok (.ireturn, 1) := by decide +kernel
theorem dX9_rulesIn_61 : decode cX9_rulesIn 61 = .ok (.aload_n 0, 1) := by decide +kernel
theorem dX9_rulesIn_62 : decode cX9_rulesIn 62 = .ok (.getfield 18, 3) := by decide +kernel
theorem dX9_rulesIn_65 : decode cX9_rulesIn 65 = .ok (.iload_n 2, 1) := by decide +kernel
theorem dX9_rulesIn_66 : decode cX9_rulesIn 66 = .ok (.baload, 1) := by decide +kernel
theorem dX9_rulesIn_67 : decode cX9_rulesIn 67 = .ok (.ifCond .eq 5, 3) := by decide +kernel
theorem dX9_rulesIn_70 : decode cX9_rulesIn 70 = .ok (.iconst 0, 1) := by decide +kernel
theorem dX9_rulesIn_71 : decode cX9_rulesIn 71 = .ok (.ireturn, 1) := by decide +kernel
theorem dX9_rulesIn_72 : decode cX9_rulesIn 72 = .ok (.aload_n 0, 1) := by decide +kernel
theorem dX9_rulesIn_73 : decode cX9_rulesIn 73 = .ok (.getfield 18, 3) := by decide +kernel
theorem dX9_rulesIn_76 : decode cX9_rulesIn 76 = .ok (.iload_n 2, 1) := by decide +kernel
theorem dX9_rulesIn_77 : decode cX9_rulesIn 77 = .ok (.iconst 1, 1) := by decide +kernel
theorem dX9_rulesIn_78 : decode cX9_rulesIn 78 = .ok (.bastore, 1) := by decide +kernel
theorem dX9_rulesIn_79 : decode cX9_rulesIn 79 = .ok (.aload_n 0, 1) := by decide +kernel
theorem dX9_rulesIn_80 : decode cX9_rulesIn 80 = .ok (.dup, 1) := by decide +kernel
theorem dX9_rulesIn_81 : decode cX9_rulesIn 81 = .ok (.getfield 37, 3) := by decide +kernel
theorem dX9_rulesIn_84 : decode cX9_rulesIn 84 = .ok (.iconst 1, 1) := by decide +kernel
theorem dX9_rulesIn_85 : decode cX9_rulesIn 85 = .ok (.iadd, 1) := by decide +kernel
theorem dX9_rulesIn_86 : decode cX9_rulesIn 86 = .ok (.putfield 37, 3) := by decide +kernel
theorem dX9_rulesIn_89 : decode cX9_rulesIn 89 = .ok (.aload_n 0, 1) := by decide +kernel
theorem dX9_rulesIn_90 : decode cX9_rulesIn 90 = .ok (.invokevirtual 41, 3) := by decide +kernel
theorem dX9_rulesIn_93 : decode cX9_rulesIn 93 = .ok (.aload_n 0, 1) := by decide +kernel
theorem dX9_rulesIn_94 : decode cX9_rulesIn 94 = .ok (.iload_n 2, 1) := by decide +kernel
theorem dX9_rulesIn_95 : decode cX9_rulesIn 95 = .ok (.invokevirtual 74, 3) := by decide +kernel
theorem dX9_rulesIn_98 : decode cX9_rulesIn 98 = .ok (.ifCond .ne 5, 3) := by decide +kernel
theorem dX9_rulesIn_101 : decode cX9_rulesIn 101 = .ok (.iconst 0, 1) := by decide +kernel
theorem dX9_rulesIn_102 : decode cX9_rulesIn 102 = .ok (.ireturn, 1) := by decide +kernel
theorem dX9_rulesIn_103 : decode cX9_rulesIn 103 = .ok (.iinc 1 1, 3) := by decide +kernel
theorem dX9_rulesIn_106 : decode cX9_rulesIn 106 = .ok (.goto (-69), 3) := by decide +kernel
theorem dX9_rulesIn_109 : decode cX9_rulesIn 109 = .ok (.iconst 1, 1) := by decide +kernel
theorem dX9_rulesIn_110 : decode cX9_rulesIn 110 = .ok (.ireturn, 1) := by decide +kernel
theorem dX9_ruleBySign_0 : decode cX9_ruleBySign 0 = .ok (.iconst 0, 1) := by decide +kernel
theorem dX9_ruleBySign_1 : decode cX9_ruleBySign 1 = .ok (.istore_n 1, 1) := by decide +kernel
theorem dX9_ruleBySign_2 : decode cX9_ruleBySign 2 = .ok (.iload_n 1, 1) := by decide +kernel
theorem dX9_ruleBySign_3 : decode cX9_ruleBySign 3 = .ok (.iconst 5, 1) := by decide +kernel
theorem dX9_ruleBySign_4 : decode cX9_ruleBySign 4 = .ok (.if_icmp .ge 20, 3) := by decide +kernel
theorem dX9_ruleBySign_7 : decode cX9_ruleBySign 7 = .ok (.getstatic 78, 3) := by decide +kernel
theorem dX9_ruleBySign_10 : decode cX9_ruleBySign 10 = .ok (.iload_n 1, 1) := by decide +kernel
theorem dX9_ruleBySign_11 : decode cX9_ruleBySign 11 = .ok (.caload, 1) := by decide +kernel
theorem dX9_ruleBySign_12 : decode cX9_ruleBySign 12 = .ok (.iload_n 0, 1) := by decide +kernel
theorem dX9_ruleBySign_13 : decode cX9_ruleBySign 13 = .ok (.if_icmp .ne 5, 3) := by decide +kernel
theorem dX9_ruleBySign_16 : decode cX9_ruleBySign 16 = .ok (.iload_n 1, 1) := by decide +kernel
theorem dX9_ruleBySign_17 : decode cX9_ruleBySign 17 = .ok (.ireturn, 1) := by decide +kernel
theorem dX9_ruleBySign_18 : decode cX9_ruleBySign 18 = .ok (.iinc 1 1, 3) := by decide +kernel
theorem dX9_ruleBySign_21 : decode cX9_ruleBySign 21 = .ok (.goto (-19), 3) := by decide +kernel
theorem dX9_ruleBySign_24 : decode cX9_ruleBySign 24 = .ok (.iconst (-1), 1) := by decide +kernel
theorem dX9_ruleBySign_25 : decode cX9_ruleBySign 25 = .ok (.ireturn, 1) := by decide +kernel
theorem dX9_ruleNumberIn_0 : decode cX9_ruleNumberIn 0 = .ok (.aload_n 0, 1) := by decide +kernel
theorem dX9_ruleNumberIn_1 : decode cX9_ruleNumberIn 1 = .ok (.lconst 0, 1) := by decide +kernel
theorem dX9_ruleNumberIn_2 : decode cX9_ruleNumberIn 2 = .ok (.putfield 82, 3) := by decide +kernel
theorem dX9_ruleNumberIn_5 : decode cX9_ruleNumberIn 5 = .ok (.aload_n 0, 1) := by decide +kernel
theorem dX9_ruleNumberIn_6 : decode cX9_ruleNumberIn 6 = .ok (.iconst 2, 1) := by decide +kernel
theorem dX9_ruleNumberIn_7 : decode cX9_ruleNumberIn 7 = .ok (.invokevirtual 86, 3) := by decide +kernel
theorem dX9_ruleNumberIn_10 : decode cX9_ruleNumberIn 10 = .ok (.iconst (-1), 1) := by decide +kernel
theorem dX9_ruleNumberIn_11 : decode cX9_ruleNumberIn 11 = .ok (.if_icmp .ne 5, 3) := by decide +kernel
theorem dX9_ruleNumberIn_14 : decode cX9_ruleNumberIn 14 = .ok (.iconst 0, 1) := by decide +kernel
theorem dX9_ruleNumberIn_15 : decode cX9_ruleNumberIn 15 = .ok (.ireturn, 1) := by decide +kernel
theorem dX9_ruleNumberIn_16 : decode cX9_ruleNumberIn 16 = .ok (.iload_n 1, 1) := by decide +kernel
theorem dX9_ruleNumberIn_17 : decode cX9_ruleNumberIn 17 = .ok (.aload_n 0, 1) := by decide +kernel
theorem dX9_ruleNumberIn_18 : decode cX9_ruleNumberIn 18 = .ok (.getfield 82, 3) := by decide +kernel
theorem dX9_ruleNumberIn_21 : decode cX9_ruleNumberIn 21 = .ok (.l2i, 1) := by decide +kernel
theorem dX9_ruleNumberIn_22 : decode cX9_ruleNumberIn 22 = .ok (.invokestatic 89, 3) := by decide +kernel
theorem dX9_ruleNumberIn_25 : decode cX9_ruleNumberIn 25 = .ok (.ifCond .ne 15, 3) := by decide +kernel
theorem dX9_ruleNumberIn_28 : decode cX9_ruleNumberIn 28 = .ok (.aload_n 0, 1) := by decide +kernel
theorem dX9_ruleNumberIn_29 : decode cX9_ruleNumberIn 29 = .ok (.dup, 1) := by decide +kernel
theorem dX9_ruleNumberIn_30 : decode cX9_ruleNumberIn 30 = .ok (.getfield 37, 3) := by decide +kernel
theorem dX9_ruleNumberIn_33 : decode cX9_ruleNumberIn 33 = .ok (.iconst 1, 1) := by decide +kernel
theorem dX9_ruleNumberIn_34 : decode cX9_ruleNumberIn 34 = .ok (.isub, 1) := by decide +kernel
theorem dX9_ruleNumberIn_35 : decode cX9_ruleNumberIn 35 = .ok (.putfield 37, 3) := by decide +kernel
theorem dX9_ruleNumberIn_38 : decode cX9_ruleNumberIn 38 = .ok (.iconst 0, 1) := by decide +kernel
theorem dX9_ruleNumberIn_39 : decode cX9_ruleNumberIn 39 = .ok (.ireturn, 1) := by decide +kernel
theorem dX9_ruleNumberIn_40 : decode cX9_ruleNumberIn 40 = .ok (.aload_n 0, 1) := by decide +kernel
theorem dX9_ruleNumberIn_41 : decode cX9_ruleNumberIn 41 = .ok (.getfield 12, 3) := by decide +kernel
theorem dX9_ruleNumberIn_44 : decode cX9_ruleNumberIn 44 = .ok (.getfield 93, 3) := by decide +kernel
theorem dX9_ruleNumberIn_47 : decode cX9_ruleNumberIn 47 = .ok (.iload_n 1, 1) := by decide +kernel
theorem dX9_ruleNumberIn_48 : decode cX9_ruleNumberIn 48 = .ok (.aload_n 0, 1) := by decide +kernel
theorem dX9_ruleNumberIn_49 : decode cX9_ruleNumberIn 49 = .ok (.getfield 82, 3) := by decide +kernel
theorem dX9_ruleNumberIn_52 : decode cX9_ruleNumberIn 52 = .ok (.l2i, 1) := by decide +kernel
theorem dX9_ruleNumberIn_53 : decode cX9_ruleNumberIn 53 = .ok (.iastore, 1) := by decide +kernel
theorem dX9_ruleNumberIn_54 : decode cX9_ruleNumberIn 54 = .ok (.iconst 1, 1) := by decide +kernel
theorem dX9_ruleNumberIn_55 : decode cX9_ruleNumberIn 55 = .ok (.ireturn, 1) := by decide +kernel
theorem dX9_isDigit_0 : decode cX9_isDigit 0 = .ok (.iload_n 0, 1) := by decide +kernel
theorem dX9_isDigit_1 : decode cX9_isDigit 1 = .ok (.bipush 48, 2) := by decide +kernel
theorem dX9_isDigit_3 : decode cX9_isDigit 3 = .ok (.if_icmp .lt 13, 3) := by decide +kernel
theorem dX9_isDigit_6 : decode cX9_isDigit 6 = .ok (.iload_n 0, 1) := by decide +kernel
theorem dX9_isDigit_7 : decode cX9_isDigit 7 = .ok (.bipush 57, 2) := by decide +kernel
theorem dX9_isDigit_9 : decode cX9_isDigit 9 = .ok (.if_icmp .gt 7, 3) := by decide +kernel
theorem dX9_isDigit_12 : decode cX9_isDigit 12 = .ok (.iconst 1, 1) := by decide +kernel
theorem dX9_isDigit_13 : decode cX9_isDigit 13 = .ok (.goto 4, 3) := by decide +kernel
theorem dX9_isDigit_16 : decode cX9_isDigit 16 = .ok (.iconst 0, 1) := by decide +kernel
theorem dX9_isDigit_17 : decode cX9_isDigit 17 = .ok (.ireturn, 1) := by decide +kernel
theorem dX9_digitsIn_0 : decode cX9_digitsIn 0 = .ok (.iconst 0, 1) := by decide +kernel
theorem dX9_digitsIn_1 : decode cX9_digitsIn 1 = .ok (.istore_n 2, 1) := by decide +kernel
theorem dX9_digitsIn_2 : decode cX9_digitsIn 2 = .ok (.aload_n 0, 1) := by decide +kernel
theorem dX9_digitsIn_3 : decode cX9_digitsIn 3 = .ok (.invokevirtual 53, 3) := by decide +kernel
theorem dX9_digitsIn_6 : decode cX9_digitsIn 6 = .ok (.invokestatic 96, 3) := by decide +kernel
theorem dX9_digitsIn_9 : decode cX9_digitsIn 9 = .ok (.ifCond .eq 47, 3) := by decide +kernel
theorem dX9_digitsIn_12 : decode cX9_digitsIn 12 = .ok (.iload_n 2, 1) := by decide +kernel
theorem dX9_digitsIn_13 : decode cX9_digitsIn 13 = .ok (.iload_n 1, 1) := by decide +kernel
theorem dX9_digitsIn_14 : decode cX9_digitsIn 14 = .ok (.if_icmp .ne 5, 3) := by decide +kernel
theorem dX9_digitsIn_17 : decode cX9_digitsIn 17 = .ok (.iconst (-1), 1) := by decide +kernel
theorem dX9_digitsIn_18 : decode cX9_digitsIn 18 = .ok (.ireturn, 1) := by decide +kernel
theorem dX9_digitsIn_19 : decode cX9_digitsIn 19 = .ok (.aload_n 0, 1) := by decide +kernel
theorem dX9_digitsIn_20 : decode cX9_digitsIn 20 = .ok (.ldc2_w 99, 3) := by decide +kernel
theorem dX9_digitsIn_23 : decode cX9_digitsIn 23 = .ok (.aload_n 0, 1) := by decide +kernel
theorem dX9_digitsIn_24 : decode cX9_digitsIn 24 = .ok (.getfield 82, 3) := by decide +kernel
theorem dX9_digitsIn_27 : decode cX9_digitsIn 27 = .ok (.lmul, 1) := by decide +kernel
theorem dX9_digitsIn_28 : decode cX9_digitsIn 28 = .ok (.aload_n 0, 1) := by decide +kernel
theorem dX9_digitsIn_29 : decode cX9_digitsIn 29 = .ok (.invokevirtual 53, 3) := by decide +kernel
theorem dX9_digitsIn_32 : decode cX9_digitsIn 32 = .ok (.bipush 48, 2) := by decide +kernel
theorem dX9_digitsIn_34 : decode cX9_digitsIn 34 = .ok (.isub, 1) := by decide +kernel
theorem dX9_digitsIn_35 : decode cX9_digitsIn 35 = .ok (.i2l, 1) := by decide +kernel
theorem dX9_digitsIn_36 : decode cX9_digitsIn 36 = .ok (.ladd, 1) := by decide +kernel
theorem dX9_digitsIn_37 : decode cX9_digitsIn 37 = .ok (.putfield 82, 3) := by decide +kernel
theorem dX9_digitsIn_40 : decode cX9_digitsIn 40 = .ok (.iinc 2 1, 3) := by decide +kernel
theorem dX9_digitsIn_43 : decode cX9_digitsIn 43 = .ok (.aload_n 0, 1) := by decide +kernel
theorem dX9_digitsIn_44 : decode cX9_digitsIn 44 = .ok (.dup, 1) := by decide +kernel
theorem dX9_digitsIn_45 : decode cX9_digitsIn 45 = .ok (.getfield 37, 3) := by decide +kernel
theorem dX9_digitsIn_48 : decode cX9_digitsIn 48 = .ok (.iconst 1, 1) := by decide +kernel
theorem dX9_digitsIn_49 : decode cX9_digitsIn 49 = .ok (.iadd, 1) := by decide +kernel
theorem dX9_digitsIn_50 : decode cX9_digitsIn 50 = .ok (.putfield 37, 3) := by decide +kernel
theorem dX9_digitsIn_53 : decode cX9_digitsIn 53 = .ok (.goto (-51), 3) := by decide +kernel
theorem dX9_digitsIn_56 : decode cX9_digitsIn 56 = .ok (.iload_n 2, 1) := by decide +kernel
theorem dX9_digitsIn_57 : decode cX9_digitsIn 57 = .ok (.ifCond .ne 7, 3) := by decide +kernel
theorem dX9_digitsIn_60 : decode cX9_digitsIn 60 = .ok (.iconst (-1), 1) := by decide +kernel
theorem dX9_digitsIn_61 : decode cX9_digitsIn 61 = .ok (.goto 4, 3) := by decide +kernel
theorem dX9_digitsIn_64 : decode cX9_digitsIn 64 = .ok (.iload_n 2, 1) := by decide +kernel
theorem dX9_digitsIn_65 : decode cX9_digitsIn 65 = .ok (.ireturn, 1) := by decide +kernel
theorem dX9_valueIn_0 : decode cX9_valueIn 0 = .ok (.aload_n 0, 1) := by decide +kernel
theorem dX9_valueIn_1 : decode cX9_valueIn 1 = .ok (.invokevirtual 53, 3) := by decide +kernel
theorem dX9_valueIn_4 : decode cX9_valueIn 4 = .ok (.bipush 45, 2) := by decide +kernel
theorem dX9_valueIn_6 : decode cX9_valueIn 6 = .ok (.if_icmp .ne 7, 3) := by decide +kernel
theorem dX9_valueIn_9 : decode cX9_valueIn 9 = .ok (.iconst 1, 1) := by decide +kernel
theorem dX9_valueIn_10 : decode cX9_valueIn 10 = .ok (.goto 4, 3) := by decide +kernel
theorem dX9_valueIn_13 : decode cX9_valueIn 13 = .ok (.iconst 0, 1) := by decide +kernel
theorem dX9_valueIn_14 : decode cX9_valueIn 14 = .ok (.istore_n 1, 1) := by decide +kernel
theorem dX9_valueIn_15 : decode cX9_valueIn 15 = .ok (.iload_n 1, 1) := by decide +kernel
theorem dX9_valueIn_16 : decode cX9_valueIn 16 = .ok (.ifCond .eq 13, 3) := by decide +kernel
theorem dX9_valueIn_19 : decode cX9_valueIn 19 = .ok (.aload_n 0, 1) := by decide +kernel
theorem dX9_valueIn_20 : decode cX9_valueIn 20 = .ok (.dup, 1) := by decide +kernel
theorem dX9_valueIn_21 : decode cX9_valueIn 21 = .ok (.getfield 37, 3) := by decide +kernel
theorem dX9_valueIn_24 : decode cX9_valueIn 24 = .ok (.iconst 1, 1) := by decide +kernel
theorem dX9_valueIn_25 : decode cX9_valueIn 25 = .ok (.iadd, 1) := by decide +kernel
theorem dX9_valueIn_26 : decode cX9_valueIn 26 = .ok (.putfield 37, 3) := by decide +kernel
theorem dX9_valueIn_29 : decode cX9_valueIn 29 = .ok (.aload_n 0, 1) := by decide +kernel
theorem dX9_valueIn_30 : decode cX9_valueIn 30 = .ok (.invokevirtual 53, 3) := by decide +kernel
theorem dX9_valueIn_33 : decode cX9_valueIn 33 = .ok (.istore_n 2, 1) := by decide +kernel
theorem dX9_valueIn_34 : decode cX9_valueIn 34 = .ok (.iload_n 2, 1) := by decide +kernel
theorem dX9_valueIn_35 : decode cX9_valueIn 35 = .ok (.bipush 105, 2) := by decide +kernel
theorem dX9_valueIn_37 : decode cX9_valueIn 37 = .ok (.if_icmp .eq 9, 3) := by decide +kernel
theorem dX9_valueIn_40 : decode cX9_valueIn 40 = .ok (.iload_n 2, 1) := by decide +kernel
theorem dX9_valueIn_41 : decode cX9_valueIn 41 = .ok (.bipush 110, 2) := by decide +kernel
theorem dX9_valueIn_43 : decode cX9_valueIn 43 = .ok (.if_icmp .ne 34, 3) := by decide +kernel
theorem dX9_valueIn_46 : decode cX9_valueIn 46 = .ok (.aload_n 0, 1) := by decide +kernel
theorem dX9_valueIn_47 : decode cX9_valueIn 47 = .ok (.dup, 1) := by decide +kernel
theorem dX9_valueIn_48 : decode cX9_valueIn 48 = .ok (.getfield 37, 3) := by decide +kernel
theorem dX9_valueIn_51 : decode cX9_valueIn 51 = .ok (.iconst 1, 1) := by decide +kernel
theorem dX9_valueIn_52 : decode cX9_valueIn 52 = .ok (.iadd, 1) := by decide +kernel
theorem dX9_valueIn_53 : decode cX9_valueIn 53 = .ok (.putfield 37, 3) := by decide +kernel
theorem dX9_valueIn_56 : decode cX9_valueIn 56 = .ok (.aload_n 0, 1) := by decide +kernel
theorem dX9_valueIn_57 : decode cX9_valueIn 57 = .ok (.iload_n 2, 1) := by decide +kernel
theorem dX9_valueIn_58 : decode cX9_valueIn 58 = .ok (.bipush 105, 2) := by decide +kernel
theorem dX9_valueIn_60 : decode cX9_valueIn 60 = .ok (.if_icmp .ne 9, 3) := by decide +kernel
theorem dX9_valueIn_63 : decode cX9_valueIn 63 = .ok (.ldc2_w 101, 3) := by decide +kernel
theorem dX9_valueIn_66 : decode cX9_valueIn 66 = .ok (.goto 6, 3) := by decide +kernel
theorem dX9_valueIn_69 : decode cX9_valueIn 69 = .ok (.ldc2_w 103, 3) := by decide +kernel
theorem dX9_valueIn_72 : decode cX9_valueIn 72 = .ok (.iload_n 1, 1) := by decide +kernel
theorem dX9_valueIn_73 : decode cX9_valueIn 73 = .ok (.invokevirtual 105, 3) := by decide +kernel
theorem dX9_valueIn_76 : decode cX9_valueIn 76 = .ok (.ireturn, 1) := by decide +kernel
theorem dX9_valueIn_77 : decode cX9_valueIn 77 = .ok (.iload_n 2, 1) := by decide +kernel
theorem dX9_valueIn_78 : decode cX9_valueIn 78 = .ok (.bipush 120, 2) := by decide +kernel
theorem dX9_valueIn_80 : decode cX9_valueIn 80 = .ok (.if_icmp .ne 22, 3) := by decide +kernel
theorem dX9_valueIn_83 : decode cX9_valueIn 83 = .ok (.iload_n 1, 1) := by decide +kernel
theorem dX9_valueIn_84 : decode cX9_valueIn 84 = .ok (.ifCond .ne 18, 3) := by decide +kernel
theorem dX9_valueIn_87 : decode cX9_valueIn 87 = .ok (.aload_n 0, 1) := by decide +kernel
theorem dX9_valueIn_88 : decode cX9_valueIn 88 = .ok (.dup, 1) := by decide +kernel
theorem dX9_valueIn_89 : decode cX9_valueIn 89 = .ok (.getfield 37, 3) := by decide +kernel
theorem dX9_valueIn_92 : decode cX9_valueIn 92 = .ok (.iconst 1, 1) := by decide +kernel
theorem dX9_valueIn_93 : decode cX9_valueIn 93 = .ok (.iadd, 1) := by decide +kernel
theorem dX9_valueIn_94 : decode cX9_valueIn 94 = .ok (.putfield 37, 3) := by decide +kernel
theorem dX9_valueIn_97 : decode cX9_valueIn 97 = .ok (.aload_n 0, 1) := by decide +kernel
theorem dX9_valueIn_98 : decode cX9_valueIn 98 = .ok (.invokevirtual 109, 3) := by decide +kernel
theorem dX9_valueIn_101 : decode cX9_valueIn 101 = .ok (.ireturn, 1) := by decide +kernel
theorem dX9_valueIn_102 : decode cX9_valueIn 102 = .ok (.aload_n 0, 1) := by decide +kernel
theorem dX9_valueIn_103 : decode cX9_valueIn 103 = .ok (.iload_n 1, 1) := by decide +kernel
theorem dX9_valueIn_104 : decode cX9_valueIn 104 = .ok (.invokevirtual 112, 3) := by decide +kernel
theorem dX9_valueIn_107 : decode cX9_valueIn 107 = .ok (.ireturn, 1) := by decide +kernel
theorem dX9_come_0 : decode cX9_come 0 = .ok (.aload_n 0, 1) := by decide +kernel
theorem dX9_come_1 : decode cX9_come 1 = .ok (.getfield 12, 3) := by decide +kernel
theorem dX9_come_4 : decode cX9_come 4 = .ok (.iload_n 3, 1) := by decide +kernel
theorem dX9_come_5 : decode cX9_come 5 = .ok (.ifCond .eq 11, 3) := by decide +kernel
theorem dX9_come_8 : decode cX9_come 8 = .ok (.lload_n 1, 1) := by decide +kernel
theorem dX9_come_9 : decode cX9_come 9 = .ok (.ldc2_w 116, 3) := by decide +kernel
theorem dX9_come_12 : decode cX9_come 12 = .ok (.lxor, 1) := by decide +kernel
theorem dX9_come_13 : decode cX9_come 13 = .ok (.goto 4, 3) := by decide +kernel
theorem dX9_come_16 : decode cX9_come 16 = .ok (.lload_n 1, 1) := by decide +kernel
theorem dX9_come_17 : decode cX9_come 17 = .ok (.invokevirtual 118, 3) := by decide +kernel
theorem dX9_come_20 : decode cX9_come 20 = .ok (.iconst 1, 1) := by decide +kernel
theorem dX9_come_21 : decode cX9_come 21 = .ok (.ireturn, 1) := by decide +kernel
theorem dX9_bitsIn_0 : decode cX9_bitsIn 0 = .ok (.lconst 0, 1) := by decide +kernel
theorem dX9_bitsIn_1 : decode cX9_bitsIn 1 = .ok (.lstore_n 1, 1) := by decide +kernel
theorem dX9_bitsIn_2 : decode cX9_bitsIn 2 = .ok (.iconst 0, 1) := by decide +kernel
theorem dX9_bitsIn_3 : decode cX9_bitsIn 3 = .ok (.istore_n 3, 1) := by decide +kernel
theorem dX9_bitsIn_4 : decode cX9_bitsIn 4 = .ok (.aload_n 0, 1) := by decide +kernel
theorem dX9_bitsIn_5 : decode cX9_bitsIn 5 = .ok (.invokevirtual 53, 3) := by decide +kernel
theorem dX9_bitsIn_8 : decode cX9_bitsIn 8 = .ok (.invokestatic 122, 3) := by decide +kernel
theorem dX9_bitsIn_11 : decode cX9_bitsIn 11 = .ok (.iconst (-1), 1) := by decide +kernel
theorem dX9_bitsIn_12 : decode cX9_bitsIn 12 = .ok (.if_icmp .eq 40, 3) := by decide +kernel
theorem dX9_bitsIn_15 : decode cX9_bitsIn 15 = .ok (.iload_n 3, 1) := by decide +kernel
theorem dX9_bitsIn_16 : decode cX9_bitsIn 16 = .ok (.bipush 16, 2) := by decide +kernel
theorem dX9_bitsIn_18 : decode cX9_bitsIn 18 = .ok (.if_icmp .ne 5, 3) := by decide +kernel
theorem dX9_bitsIn_21 : decode cX9_bitsIn 21 = .ok (.iconst 0, 1) := by decide +kernel
theorem dX9_bitsIn_22 : decode cX9_bitsIn 22 = .ok (.ireturn, 1) := by decide +kernel
theorem dX9_bitsIn_23 : decode cX9_bitsIn 23 = .ok (.lload_n 1, 1) := by decide +kernel
theorem dX9_bitsIn_24 : decode cX9_bitsIn 24 = .ok (.iconst 4, 1) := by decide +kernel
theorem dX9_bitsIn_25 : decode cX9_bitsIn 25 = .ok (.lshl, 1) := by decide +kernel
theorem dX9_bitsIn_26 : decode cX9_bitsIn 26 = .ok (.aload_n 0, 1) := by decide +kernel
theorem dX9_bitsIn_27 : decode cX9_bitsIn 27 = .ok (.invokevirtual 53, 3) := by decide +kernel
theorem dX9_bitsIn_30 : decode cX9_bitsIn 30 = .ok (.invokestatic 122, 3) := by decide +kernel
theorem dX9_bitsIn_33 : decode cX9_bitsIn 33 = .ok (.i2l, 1) := by decide +kernel
theorem dX9_bitsIn_34 : decode cX9_bitsIn 34 = .ok (.lor, 1) := by decide +kernel
theorem dX9_bitsIn_35 : decode cX9_bitsIn 35 = .ok (.lstore_n 1, 1) := by decide +kernel
theorem dX9_bitsIn_36 : decode cX9_bitsIn 36 = .ok (.iinc 3 1, 3) := by decide +kernel
theorem dX9_bitsIn_39 : decode cX9_bitsIn 39 = .ok (.aload_n 0, 1) := by decide +kernel
theorem dX9_bitsIn_40 : decode cX9_bitsIn 40 = .ok (.dup, 1) := by decide +kernel
theorem dX9_bitsIn_41 : decode cX9_bitsIn 41 = .ok (.getfield 37, 3) := by decide +kernel
theorem dX9_bitsIn_44 : decode cX9_bitsIn 44 = .ok (.iconst 1, 1) := by decide +kernel
theorem dX9_bitsIn_45 : decode cX9_bitsIn 45 = .ok (.iadd, 1) := by decide +kernel
theorem dX9_bitsIn_46 : decode cX9_bitsIn 46 = .ok (.putfield 37, 3) := by decide +kernel
theorem dX9_bitsIn_49 : decode cX9_bitsIn 49 = .ok (.goto (-45), 3) := by decide +kernel
theorem dX9_bitsIn_52 : decode cX9_bitsIn 52 = .ok (.iload_n 3, 1) := by decide +kernel
theorem dX9_bitsIn_53 : decode cX9_bitsIn 53 = .ok (.ifCond .le 16, 3) := by decide +kernel
theorem dX9_bitsIn_56 : decode cX9_bitsIn 56 = .ok (.aload_n 0, 1) := by decide +kernel
theorem dX9_bitsIn_57 : decode cX9_bitsIn 57 = .ok (.lload_n 1, 1) := by decide +kernel
theorem dX9_bitsIn_58 : decode cX9_bitsIn 58 = .ok (.iconst 0, 1) := by decide +kernel
theorem dX9_bitsIn_59 : decode cX9_bitsIn 59 = .ok (.invokevirtual 105, 3) := by decide +kernel
theorem dX9_bitsIn_62 : decode cX9_bitsIn 62 = .ok (.ifCond .eq 7, 3) := by decide +kernel
theorem dX9_bitsIn_65 : decode cX9_bitsIn 65 = .ok (.iconst 1, 1) := by decide +kernel
theorem dX9_bitsIn_66 : decode cX9_bitsIn 66 = .ok (.goto 4, 3) := by decide +kernel
theorem dX9_bitsIn_69 : decode cX9_bitsIn 69 = .ok (.iconst 0, 1) := by decide +kernel
theorem dX9_bitsIn_70 : decode cX9_bitsIn 70 = .ok (.ireturn, 1) := by decide +kernel
theorem dX9_hexOf_0 : decode cX9_hexOf 0 = .ok (.iload_n 0, 1) := by decide +kernel
theorem dX9_hexOf_1 : decode cX9_hexOf 1 = .ok (.invokestatic 96, 3) := by decide +kernel
theorem dX9_hexOf_4 : decode cX9_hexOf 4 = .ok (.ifCond .eq 8, 3) := by decide +kernel
theorem dX9_hexOf_7 : decode cX9_hexOf 7 = .ok (.iload_n 0, 1) := by decide +kernel
theorem dX9_hexOf_8 : decode cX9_hexOf 8 = .ok (.bipush 48, 2) := by decide +kernel
theorem dX9_hexOf_10 : decode cX9_hexOf 10 = .ok (.isub, 1) := by decide +kernel
theorem dX9_hexOf_11 : decode cX9_hexOf 11 = .ok (.ireturn, 1) := by decide +kernel
theorem dX9_hexOf_12 : decode cX9_hexOf 12 = .ok (.iload_n 0, 1) := by decide +kernel
theorem dX9_hexOf_13 : decode cX9_hexOf 13 = .ok (.bipush 97, 2) := by decide +kernel
theorem dX9_hexOf_15 : decode cX9_hexOf 15 = .ok (.if_icmp .lt 19, 3) := by decide +kernel
theorem dX9_hexOf_18 : decode cX9_hexOf 18 = .ok (.iload_n 0, 1) := by decide +kernel
theorem dX9_hexOf_19 : decode cX9_hexOf 19 = .ok (.bipush 102, 2) := by decide +kernel
theorem dX9_hexOf_21 : decode cX9_hexOf 21 = .ok (.if_icmp .gt 13, 3) := by decide +kernel
theorem dX9_hexOf_24 : decode cX9_hexOf 24 = .ok (.iload_n 0, 1) := by decide +kernel
theorem dX9_hexOf_25 : decode cX9_hexOf 25 = .ok (.bipush 97, 2) := by decide +kernel
theorem dX9_hexOf_27 : decode cX9_hexOf 27 = .ok (.isub, 1) := by decide +kernel
theorem dX9_hexOf_28 : decode cX9_hexOf 28 = .ok (.bipush 10, 2) := by decide +kernel
theorem dX9_hexOf_30 : decode cX9_hexOf 30 = .ok (.iadd, 1) := by decide +kernel
theorem dX9_hexOf_31 : decode cX9_hexOf 31 = .ok (.goto 4, 3) := by decide +kernel
theorem dX9_hexOf_34 : decode cX9_hexOf 34 = .ok (.iconst (-1), 1) := by decide +kernel
theorem dX9_hexOf_35 : decode cX9_hexOf 35 = .ok (.ireturn, 1) := by decide +kernel
theorem dX9_numberIn_0 : decode cX9_numberIn 0 = .ok (.aload_n 0, 1) := by decide +kernel
theorem dX9_numberIn_1 : decode cX9_numberIn 1 = .ok (.lconst 0, 1) := by decide +kernel
theorem dX9_numberIn_2 : decode cX9_numberIn 2 = .ok (.putfield 82, 3) := by decide +kernel
theorem dX9_numberIn_5 : decode cX9_numberIn 5 = .ok (.aload_n 0, 1) := by decide +kernel
theorem dX9_numberIn_6 : decode cX9_numberIn 6 = .ok (.bipush 9, 2) := by decide +kernel
theorem dX9_numberIn_8 : decode cX9_numberIn 8 = .ok (.invokevirtual 86, 3) := by decide +kernel
theorem dX9_numberIn_11 : decode cX9_numberIn 11 = .ok (.iconst (-1), 1) := by decide +kernel
theorem dX9_numberIn_12 : decode cX9_numberIn 12 = .ok (.if_icmp .ne 5, 3) := by decide +kernel
theorem dX9_numberIn_15 : decode cX9_numberIn 15 = .ok (.iconst 0, 1) := by decide +kernel
theorem dX9_numberIn_16 : decode cX9_numberIn 16 = .ok (.ireturn, 1) := by decide +kernel
theorem dX9_numberIn_17 : decode cX9_numberIn 17 = .ok (.iconst 0, 1) := by decide +kernel
theorem dX9_numberIn_18 : decode cX9_numberIn 18 = .ok (.istore_n 2, 1) := by decide +kernel
theorem dX9_numberIn_19 : decode cX9_numberIn 19 = .ok (.aload_n 0, 1) := by decide +kernel
theorem dX9_numberIn_20 : decode cX9_numberIn 20 = .ok (.invokevirtual 53, 3) := by decide +kernel
theorem dX9_numberIn_23 : decode cX9_numberIn 23 = .ok (.bipush 46, 2) := by decide +kernel
theorem dX9_numberIn_25 : decode cX9_numberIn 25 = .ok (.if_icmp .ne 20, 3) := by decide +kernel
theorem dX9_numberIn_28 : decode cX9_numberIn 28 = .ok (.aload_n 0, 1) := by decide +kernel
theorem dX9_numberIn_29 : decode cX9_numberIn 29 = .ok (.dup, 1) := by decide +kernel
theorem dX9_numberIn_30 : decode cX9_numberIn 30 = .ok (.getfield 37, 3) := by decide +kernel
theorem dX9_numberIn_33 : decode cX9_numberIn 33 = .ok (.iconst 1, 1) := by decide +kernel
theorem dX9_numberIn_34 : decode cX9_numberIn 34 = .ok (.iadd, 1) := by decide +kernel
theorem dX9_numberIn_35 : decode cX9_numberIn 35 = .ok (.putfield 37, 3) := by decide +kernel
theorem dX9_numberIn_38 : decode cX9_numberIn 38 = .ok (.aload_n 0, 1) := by decide +kernel
theorem dX9_numberIn_39 : decode cX9_numberIn 39 = .ok (.bipush 9, 2) := by decide +kernel
theorem dX9_numberIn_41 : decode cX9_numberIn 41 = .ok (.invokevirtual 86, 3) := by decide +kernel
theorem dX9_numberIn_44 : decode cX9_numberIn 44 = .ok (.istore_n 2, 1) := by decide +kernel
theorem dX9_numberIn_45 : decode cX9_numberIn 45 = .ok (.iload_n 2, 1) := by decide +kernel
theorem dX9_numberIn_46 : decode cX9_numberIn 46 = .ok (.iconst (-1), 1) := by decide +kernel
theorem dX9_numberIn_47 : decode cX9_numberIn 47 = .ok (.if_icmp .eq 27, 3) := by decide +kernel
theorem dX9_numberIn_50 : decode cX9_numberIn 50 = .ok (.aload_n 0, 1) := by decide +kernel
theorem dX9_numberIn_51 : decode cX9_numberIn 51 = .ok (.aload_n 0, 1) := by decide +kernel
theorem dX9_numberIn_52 : decode cX9_numberIn 52 = .ok (.getfield 26, 3) := by decide +kernel
theorem dX9_numberIn_55 : decode cX9_numberIn 55 = .ok (.aload_n 0, 1) := by decide +kernel
theorem dX9_numberIn_56 : decode cX9_numberIn 56 = .ok (.getfield 82, 3) := by decide +kernel
theorem dX9_numberIn_59 : decode cX9_numberIn 59 = .ok (.iload_n 2, 1) := by decide +kernel
theorem dX9_numberIn_60 : decode cX9_numberIn 60 = .ok (.invokevirtual 125, 3) := by decide +kernel
theorem dX9_numberIn_63 : decode cX9_numberIn 63 = .ok (.iload_n 1, 1) := by decide +kernel
theorem dX9_numberIn_64 : decode cX9_numberIn 64 = .ok (.invokevirtual 105, 3) := by decide +kernel
theorem dX9_numberIn_67 : decode cX9_numberIn 67 = .ok (.ifCond .eq 7, 3) := by decide +kernel
theorem dX9_numberIn_70 : decode cX9_numberIn 70 = .ok (.iconst 1, 1) := by decide +kernel
theorem dX9_numberIn_71 : decode cX9_numberIn 71 = .ok (.goto 4, 3) := by decide +kernel
theorem dX9_numberIn_74 : decode cX9_numberIn 74 = .ok (.iconst 0, 1) := by decide +kernel
theorem dX9_numberIn_75 : decode cX9_numberIn 75 = .ok (.ireturn, 1) := by decide +kernel
