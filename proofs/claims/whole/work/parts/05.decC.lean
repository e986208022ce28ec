theorem dX5_init_0 : decode cX5_init 0 = .ok (.aload_n 0, 1) := by decide +kernel
theorem dX5_init_1 : decode cX5_init 1 = .ok (.invokespecial 1, 3) := by decide +kernel
theorem dX5_init_4 : decode cX5_init 4 = .ok (.aload_n 0, 1) := by decide +kernel
theorem dX5_init_5 : decode cX5_init 5 = .ok (.sipush 150, 3) := by decide +kernel
theorem dX5_init_8 : decode cX5_init 8 = .ok (.newarray .int, 2) := by decide +kernel
theorem dX5_init_10 : decode cX5_init 10 = .ok (.putfield 7, 3) := by decide +kernel
theorem dX5_init_13 : decode cX5_init 13 = .ok (.aload_n 0, 1) := by decide +kernel
theorem dX5_init_14 : decode cX5_init 14 = .ok (.sipush 150, 3) := by decide +kernel
theorem dX5_init_17 : decode cX5_init 17 = .ok (.newarray .int, 2) := by decide +kernel
theorem dX5_init_19 : decode cX5_init 19 = .ok (.putfield 13, 3) := by decide +kernel
theorem dX5_init_22 : decode cX5_init 22 = .ok (.aload_n 0, 1) := by decide +kernel
theorem dX5_init_23 : decode cX5_init 23 = .ok (.sipush 900, 3) := by decide +kernel
theorem dX5_init_26 : decode cX5_init 26 = .ok (.newarray .int, 2) := by decide +kernel
theorem dX5_init_28 : decode cX5_init 28 = .ok (.putfield 16, 3) := by decide +kernel
theorem dX5_init_31 : decode cX5_init 31 = .ok (.aload_n 0, 1) := by decide +kernel
theorem dX5_init_32 : decode cX5_init 32 = .ok (.sipush 300, 3) := by decide +kernel
theorem dX5_init_35 : decode cX5_init 35 = .ok (.newarray .int, 2) := by decide +kernel
theorem dX5_init_37 : decode cX5_init 37 = .ok (.putfield 19, 3) := by decide +kernel
theorem dX5_init_40 : decode cX5_init 40 = .ok (.aload_n 0, 1) := by decide +kernel
theorem dX5_init_41 : decode cX5_init 41 = .ok (.iconst 2, 1) := by decide +kernel
theorem dX5_init_42 : decode cX5_init 42 = .ok (.newarray .boolean, 2) := by decide +kernel
theorem dX5_init_44 : decode cX5_init 44 = .ok (.putfield 22, 3) := by decide +kernel
theorem dX5_init_47 : decode cX5_init 47 = .ok (.aload_n 0, 1) := by decide +kernel
theorem dX5_init_48 : decode cX5_init 48 = .ok (.bipush 60, 2) := by decide +kernel
theorem dX5_init_50 : decode cX5_init 50 = .ok (.newarray .int, 2) := by decide +kernel
theorem dX5_init_52 : decode cX5_init 52 = .ok (.putfield 26, 3) := by decide +kernel
theorem dX5_init_55 : decode cX5_init 55 = .ok (.aload_n 0, 1) := by decide +kernel
theorem dX5_init_56 : decode cX5_init 56 = .ok (.bipush 8, 2) := by decide +kernel
theorem dX5_init_58 : decode cX5_init 58 = .ok (.newarray .int, 2) := by decide +kernel
theorem dX5_init_60 : decode cX5_init 60 = .ok (.putfield 29, 3) := by decide +kernel
theorem dX5_init_63 : decode cX5_init 63 = .ok (.aload_n 0, 1) := by decide +kernel
theorem dX5_init_64 : decode cX5_init 64 = .ok (.sipush 180, 3) := by decide +kernel
theorem dX5_init_67 : decode cX5_init 67 = .ok (.newarray .int, 2) := by decide +kernel
theorem dX5_init_69 : decode cX5_init 69 = .ok (.putfield 32, 3) := by decide +kernel
theorem dX5_init_72 : decode cX5_init 72 = .ok (.aload_n 0, 1) := by decide +kernel
theorem dX5_init_73 : decode cX5_init 73 = .ok (.getfield 7, 3) := by decide +kernel
theorem dX5_init_76 : decode cX5_init 76 = .ok (.iconst 0, 1) := by decide +kernel
theorem dX5_init_77 : decode cX5_init 77 = .ok (.bipush 10, 2) := by decide +kernel
theorem dX5_init_79 : decode cX5_init 79 = .ok (.iastore, 1) := by decide +kernel
theorem dX5_init_80 : decode cX5_init 80 = .ok (.aload_n 0, 1) := by decide +kernel
theorem dX5_init_81 : decode cX5_init 81 = .ok (.getfield 7, 3) := by decide +kernel
theorem dX5_init_84 : decode cX5_init 84 = .ok (.iconst 1, 1) := by decide +kernel
theorem dX5_init_85 : decode cX5_init 85 = .ok (.bipush 20, 2) := by decide +kernel
theorem dX5_init_87 : decode cX5_init 87 = .ok (.iastore, 1) := by decide +kernel
theorem dX5_init_88 : decode cX5_init 88 = .ok (.return_, 1) := by decide +kernel
theorem dX5_in_0 : decode cX5_in 0 = .ok (.iload_n 0, 1) := by decide +kernel
theorem dX5_in_1 : decode cX5_in 1 = .ok (.iload_n 1, 1) := by decide +kernel
theorem dX5_in_2 : decode cX5_in 2 = .ok (.if_icmp .lt 12, 3) := by decide +kernel
theorem dX5_in_5 : decode cX5_in 5 = .ok (.iload_n 0, 1) := by decide +kernel
theorem dX5_in_6 : decode cX5_in 6 = .ok (.iload_n 2, 1) := by decide +kernel
theorem dX5_in_7 : decode cX5_in 7 = .ok (.if_icmp .gt 7, 3) := by decide +kernel
theorem dX5_in_10 : decode cX5_in 10 = .ok (.iconst 1, 1) := by decide +kernel
theorem dX5_in_11 : decode cX5_in 11 = .ok (.goto 4, 3) := by decide +kernel
theorem dX5_in_14 : decode cX5_in 14 = .ok (.iconst 0, 1) := by decide +kernel
theorem dX5_in_15 : decode cX5_in 15 = .ok (.ireturn, 1) := by decide +kernel
theorem dX5_record_0 : decode cX5_record 0 = .ok (.aload_n 0, 1) := by decide +kernel
theorem dX5_record_1 : decode cX5_record 1 = .ok (.getfield 35, 3) := by decide +kernel
theorem dX5_record_4 : decode cX5_record 4 = .ok (.ifCond .eq 4, 3) := by decide +kernel
theorem dX5_record_7 : decode cX5_record 7 = .ok (.return_, 1) := by decide +kernel
theorem dX5_record_8 : decode cX5_record 8 = .ok (.aload_n 0, 1) := by decide +kernel
theorem dX5_record_9 : decode cX5_record 9 = .ok (.getfield 39, 3) := by decide +kernel
theorem dX5_record_12 : decode cX5_record 12 = .ok (.bipush 6, 2) := by decide +kernel
theorem dX5_record_14 : decode cX5_record 14 = .ok (.if_icmp .ne 39, 3) := by decide +kernel
theorem dX5_record_17 : decode cX5_record 17 = .ok (.iconst 0, 1) := by decide +kernel
theorem dX5_record_18 : decode cX5_record 18 = .ok (.istore_n 1, 1) := by decide +kernel
theorem dX5_record_19 : decode cX5_record 19 = .ok (.iload_n 1, 1) := by decide +kernel
theorem dX5_record_20 : decode cX5_record 20 = .ok (.sipush 750, 3) := by decide +kernel
theorem dX5_record_23 : decode cX5_record 23 = .ok (.if_icmp .ge 25, 3) := by decide +kernel
theorem dX5_record_26 : decode cX5_record 26 = .ok (.aload_n 0, 1) := by decide +kernel
theorem dX5_record_27 : decode cX5_record 27 = .ok (.getfield 16, 3) := by decide +kernel
theorem dX5_record_30 : decode cX5_record 30 = .ok (.iload_n 1, 1) := by decide +kernel
theorem dX5_record_31 : decode cX5_record 31 = .ok (.aload_n 0, 1) := by decide +kernel
theorem dX5_record_32 : decode cX5_record 32 = .ok (.getfield 16, 3) := by decide +kernel
theorem dX5_record_35 : decode cX5_record 35 = .ok (.iload_n 1, 1) := by decide +kernel
theorem dX5_record_36 : decode cX5_record 36 = .ok (.sipush 150, 3) := by decide +kernel
theorem dX5_record_39 : decode cX5_record 39 = .ok (.iadd, 1) := by decide +kernel
theorem dX5_record_40 : decode cX5_record 40 = .ok (.iaload, 1) := by decide +kernel
theorem dX5_record_41 : decode cX5_record 41 = .ok (.iastore, 1) := by decide +kernel
theorem dX5_record_42 : decode cX5_record 42 = .ok (.iinc 1 1, 3) := by decide +kernel
theorem dX5_record_45 : decode cX5_record 45 = .ok (.goto (-26), 3) := by decide +kernel
theorem dX5_record_48 : decode cX5_record 48 = .ok (.aload_n 0, 1) := by decide +kernel
theorem dX5_record_49 : decode cX5_record 49 = .ok (.iconst 5, 1) := by decide +kernel
theorem dX5_record_50 : decode cX5_record 50 = .ok (.putfield 39, 3) := by decide +kernel
theorem dX5_record_53 : decode cX5_record 53 = .ok (.iconst 0, 1) := by decide +kernel
theorem dX5_record_54 : decode cX5_record 54 = .ok (.istore_n 1, 1) := by decide +kernel
theorem dX5_record_55 : decode cX5_record 55 = .ok (.iload_n 1, 1) := by decide +kernel
theorem dX5_record_56 : decode cX5_record 56 = .ok (.sipush 150, 3) := by decide +kernel
theorem dX5_record_59 : decode cX5_record 59 = .ok (.if_icmp .ge 30, 3) := by decide +kernel
theorem dX5_record_62 : decode cX5_record 62 = .ok (.aload_n 0, 1) := by decide +kernel
theorem dX5_record_63 : decode cX5_record 63 = .ok (.getfield 16, 3) := by decide +kernel
theorem dX5_record_66 : decode cX5_record 66 = .ok (.aload_n 0, 1) := by decide +kernel
theorem dX5_record_67 : decode cX5_record 67 = .ok (.getfield 39, 3) := by decide +kernel
theorem dX5_record_70 : decode cX5_record 70 = .ok (.sipush 150, 3) := by decide +kernel
theorem dX5_record_73 : decode cX5_record 73 = .ok (.imul, 1) := by decide +kernel
theorem dX5_record_74 : decode cX5_record 74 = .ok (.iload_n 1, 1) := by decide +kernel
theorem dX5_record_75 : decode cX5_record 75 = .ok (.iadd, 1) := by decide +kernel
theorem dX5_record_76 : decode cX5_record 76 = .ok (.aload_n 0, 1) := by decide +kernel
theorem dX5_record_77 : decode cX5_record 77 = .ok (.getfield 7, 3) := by decide +kernel
theorem dX5_record_80 : decode cX5_record 80 = .ok (.iload_n 1, 1) := by decide +kernel
theorem dX5_record_81 : decode cX5_record 81 = .ok (.iaload, 1) := by decide +kernel
theorem dX5_record_82 : decode cX5_record 82 = .ok (.iastore, 1) := by decide +kernel
theorem dX5_record_83 : decode cX5_record 83 = .ok (.iinc 1 1, 3) := by decide +kernel
theorem dX5_record_86 : decode cX5_record 86 = .ok (.goto (-31), 3) := by decide +kernel
theorem dX5_record_89 : decode cX5_record 89 = .ok (.aload_n 0, 1) := by decide +kernel
theorem dX5_record_90 : decode cX5_record 90 = .ok (.dup, 1) := by decide +kernel
theorem dX5_record_91 : decode cX5_record 91 = .ok (.getfield 39, 3) := by decide +kernel
theorem dX5_record_94 : decode cX5_record 94 = .ok (.iconst 1, 1) := by decide +kernel
theorem dX5_record_95 : decode cX5_record 95 = .ok (.iadd, 1) := by decide +kernel
theorem dX5_record_96 : decode cX5_record 96 = .ok (.putfield 39, 3) := by decide +kernel
theorem dX5_record_99 : decode cX5_record 99 = .ok (.return_, 1) := by decide +kernel
theorem dX5_keep_0 : decode cX5_keep 0 = .ok (.iconst 0, 1) := by decide +kernel
theorem dX5_keep_1 : decode cX5_keep 1 = .ok (.istore_n 1, 1) := by decide +kernel
theorem dX5_keep_2 : decode cX5_keep 2 = .ok (.iload_n 1, 1) := by decide +kernel
theorem dX5_keep_3 : decode cX5_keep 3 = .ok (.sipush 150, 3) := by decide +kernel
theorem dX5_keep_6 : decode cX5_keep 6 = .ok (.if_icmp .ge 21, 3) := by decide +kernel
theorem dX5_keep_9 : decode cX5_keep 9 = .ok (.aload_n 0, 1) := by decide +kernel
theorem dX5_keep_10 : decode cX5_keep 10 = .ok (.getfield 13, 3) := by decide +kernel
theorem dX5_keep_13 : decode cX5_keep 13 = .ok (.iload_n 1, 1) := by decide +kernel
theorem dX5_keep_14 : decode cX5_keep 14 = .ok (.aload_n 0, 1) := by decide +kernel
theorem dX5_keep_15 : decode cX5_keep 15 = .ok (.getfield 7, 3) := by decide +kernel
theorem dX5_keep_18 : decode cX5_keep 18 = .ok (.iload_n 1, 1) := by decide +kernel
theorem dX5_keep_19 : decode cX5_keep 19 = .ok (.iaload, 1) := by decide +kernel
theorem dX5_keep_20 : decode cX5_keep 20 = .ok (.iastore, 1) := by decide +kernel
theorem dX5_keep_21 : decode cX5_keep 21 = .ok (.iinc 1 1, 3) := by decide +kernel
theorem dX5_keep_24 : decode cX5_keep 24 = .ok (.goto (-22), 3) := by decide +kernel
theorem dX5_keep_27 : decode cX5_keep 27 = .ok (.return_, 1) := by decide +kernel
theorem dX5_comeBack_0 : decode cX5_comeBack 0 = .ok (.iconst 0, 1) := by decide +kernel
theorem dX5_comeBack_1 : decode cX5_comeBack 1 = .ok (.istore_n 1, 1) := by decide +kernel
theorem dX5_comeBack_2 : decode cX5_comeBack 2 = .ok (.iload_n 1, 1) := by decide +kernel
theorem dX5_comeBack_3 : decode cX5_comeBack 3 = .ok (.sipush 150, 3) := by decide +kernel
theorem dX5_comeBack_6 : decode cX5_comeBack 6 = .ok (.if_icmp .ge 21, 3) := by decide +kernel
theorem dX5_comeBack_9 : decode cX5_comeBack 9 = .ok (.aload_n 0, 1) := by decide +kernel
theorem dX5_comeBack_10 : decode cX5_comeBack 10 = .ok (.getfield 7, 3) := by decide +kernel
theorem dX5_comeBack_13 : decode cX5_comeBack 13 = .ok (.iload_n 1, 1) := by decide +kernel
theorem dX5_comeBack_14 : decode cX5_comeBack 14 = .ok (.aload_n 0, 1) := by decide +kernel
theorem dX5_comeBack_15 : decode cX5_comeBack 15 = .ok (.getfield 13, 3) := by decide +kernel
theorem dX5_comeBack_18 : decode cX5_comeBack 18 = .ok (.iload_n 1, 1) := by decide +kernel
theorem dX5_comeBack_19 : decode cX5_comeBack 19 = .ok (.iaload, 1) := by decide +kernel
theorem dX5_comeBack_20 : decode cX5_comeBack 20 = .ok (.iastore, 1) := by decide +kernel
theorem dX5_comeBack_21 : decode cX5_comeBack 21 = .ok (.iinc 1 1, 3) := by decide +kernel
theorem dX5_comeBack_24 : decode cX5_comeBack 24 = .ok (.goto (-22), 3) := by decide +kernel
theorem dX5_comeBack_27 : decode cX5_comeBack 27 = .ok (.return_, 1) := by decide +kernel
theorem dX5_of_0 : decode cX5_of 0 = .ok (.aload_n 0, 1) := by decide +kernel
theorem dX5_of_1 : decode cX5_of 1 = .ok (.getfield 7, 3) := by decide +kernel
theorem dX5_of_4 : decode cX5_of 4 = .ok (.bipush 30, 2) := by decide +kernel
theorem dX5_of_6 : decode cX5_of 6 = .ok (.bipush 14, 2) := by decide +kernel
theorem dX5_of_8 : decode cX5_of 8 = .ok (.iload_n 1, 1) := by decide +kernel
theorem dX5_of_9 : decode cX5_of 9 = .ok (.imul, 1) := by decide +kernel
theorem dX5_of_10 : decode cX5_of 10 = .ok (.iadd, 1) := by decide +kernel
theorem dX5_of_11 : decode cX5_of 11 = .ok (.iload_n 2, 1) := by decide +kernel
theorem dX5_of_12 : decode cX5_of 12 = .ok (.iadd, 1) := by decide +kernel
theorem dX5_of_13 : decode cX5_of 13 = .ok (.iaload, 1) := by decide +kernel
theorem dX5_of_14 : decode cX5_of 14 = .ok (.ireturn, 1) := by decide +kernel
theorem dX5_book_0 : decode cX5_book 0 = .ok (.aload_n 0, 1) := by decide +kernel
theorem dX5_book_1 : decode cX5_book 1 = .ok (.getfield 7, 3) := by decide +kernel
theorem dX5_book_4 : decode cX5_book 4 = .ok (.bipush 30, 2) := by decide +kernel
theorem dX5_book_6 : decode cX5_book 6 = .ok (.bipush 14, 2) := by decide +kernel
theorem dX5_book_8 : decode cX5_book 8 = .ok (.iload_n 1, 1) := by decide +kernel
theorem dX5_book_9 : decode cX5_book 9 = .ok (.imul, 1) := by decide +kernel
theorem dX5_book_10 : decode cX5_book 10 = .ok (.iadd, 1) := by decide +kernel
theorem dX5_book_11 : decode cX5_book 11 = .ok (.iload_n 2, 1) := by decide +kernel
theorem dX5_book_12 : decode cX5_book 12 = .ok (.iadd, 1) := by decide +kernel
theorem dX5_book_13 : decode cX5_book 13 = .ok (.iload_n 3, 1) := by decide +kernel
theorem dX5_book_14 : decode cX5_book 14 = .ok (.iastore, 1) := by decide +kernel
theorem dX5_book_15 : decode cX5_book 15 = .ok (.return_, 1) := by decide +kernel
theorem dX5_isWire_0 : decode cX5_isWire 0 = .ok (.iload_n 1, 1) := by decide +kernel
theorem dX5_isWire_1 : decode cX5_isWire 1 = .ok (.iconst 0, 1) := by decide +kernel
theorem dX5_isWire_2 : decode cX5_isWire 2 = .ok (.aload_n 0, 1) := by decide +kernel
theorem dX5_isWire_3 : decode cX5_isWire 3 = .ok (.getfield 7, 3) := by decide +kernel
theorem dX5_isWire_6 : decode cX5_isWire 6 = .ok (.iconst 3, 1) := by decide +kernel
theorem dX5_isWire_7 : decode cX5_isWire 7 = .ok (.iaload, 1) := by decide +kernel
theorem dX5_isWire_8 : decode cX5_isWire 8 = .ok (.iconst 1, 1) := by decide +kernel
theorem dX5_isWire_9 : decode cX5_isWire 9 = .ok (.isub, 1) := by decide +kernel
theorem dX5_isWire_10 : decode cX5_isWire 10 = .ok (.invokestatic 43, 3) := by decide +kernel
theorem dX5_isWire_13 : decode cX5_isWire 13 = .ok (.ireturn, 1) := by decide +kernel
theorem dX5_isWhole_0 : decode cX5_isWhole 0 = .ok (.aload_n 0, 1) := by decide +kernel
theorem dX5_isWhole_1 : decode cX5_isWhole 1 = .ok (.iload_n 1, 1) := by decide +kernel
theorem dX5_isWhole_2 : decode cX5_isWhole 2 = .ok (.iconst 5, 1) := by decide +kernel
theorem dX5_isWhole_3 : decode cX5_isWhole 3 = .ok (.invokevirtual 47, 3) := by decide +kernel
theorem dX5_isWhole_6 : decode cX5_isWhole 6 = .ok (.ifCond .ne 7, 3) := by decide +kernel
theorem dX5_isWhole_9 : decode cX5_isWhole 9 = .ok (.iconst 1, 1) := by decide +kernel
theorem dX5_isWhole_10 : decode cX5_isWhole 10 = .ok (.goto 4, 3) := by decide +kernel
theorem dX5_isWhole_13 : decode cX5_isWhole 13 = .ok (.iconst 0, 1) := by decide +kernel
theorem dX5_isWhole_14 : decode cX5_isWhole 14 = .ok (.ireturn, 1) := by decide +kernel
theorem dX5_wholeBy_0 : decode cX5_wholeBy 0 = .ok (.iconst 0, 1) := by decide +kernel
theorem dX5_wholeBy_1 : decode cX5_wholeBy 1 = .ok (.istore_n 2, 1) := by decide +kernel
theorem dX5_wholeBy_2 : decode cX5_wholeBy 2 = .ok (.iconst 0, 1) := by decide +kernel
theorem dX5_wholeBy_3 : decode cX5_wholeBy 3 = .ok (.istore_n 3, 1) := by decide +kernel
theorem dX5_wholeBy_4 : decode cX5_wholeBy 4 = .ok (.iload_n 3, 1) := by decide +kernel
theorem dX5_wholeBy_5 : decode cX5_wholeBy 5 = .ok (.aload_n 0, 1) := by decide +kernel
theorem dX5_wholeBy_6 : decode cX5_wholeBy 6 = .ok (.getfield 7, 3) := by decide +kernel
theorem dX5_wholeBy_9 : decode cX5_wholeBy 9 = .ok (.iconst 3, 1) := by decide +kernel
theorem dX5_wholeBy_10 : decode cX5_wholeBy 10 = .ok (.iaload, 1) := by decide +kernel
theorem dX5_wholeBy_11 : decode cX5_wholeBy 11 = .ok (.if_icmp .ge 37, 3) := by decide +kernel
theorem dX5_wholeBy_14 : decode cX5_wholeBy 14 = .ok (.iload_n 2, 1) := by decide +kernel
theorem dX5_wholeBy_15 : decode cX5_wholeBy 15 = .ok (.aload_n 0, 1) := by decide +kernel
theorem dX5_wholeBy_16 : decode cX5_wholeBy 16 = .ok (.iload_n 3, 1) := by decide +kernel
theorem dX5_wholeBy_17 : decode cX5_wholeBy 17 = .ok (.iload_n 1, 1) := by decide +kernel
theorem dX5_wholeBy_18 : decode cX5_wholeBy 18 = .ok (.ifCond .ne 7, 3) := by decide +kernel
theorem dX5_wholeBy_21 : decode cX5_wholeBy 21 = .ok (.iconst 5, 1) := by decide +kernel
theorem dX5_wholeBy_22 : decode cX5_wholeBy 22 = .ok (.goto 5, 3) := by decide +kernel
theorem dX5_wholeBy_25 : decode cX5_wholeBy 25 = .ok (.bipush 10, 2) := by decide +kernel
theorem dX5_wholeBy_27 : decode cX5_wholeBy 27 = .ok (.invokevirtual 47, 3) := by decide +kernel
theorem dX5_wholeBy_30 : decode cX5_wholeBy 30 = .ok (.ifCond .ne 9, 3) := by decide +kernel
theorem dX5_wholeBy_33 : decode cX5_wholeBy 33 = .ok (.iconst 1, 1) := by decide +kernel
theorem dX5_wholeBy_34 : decode cX5_wholeBy 34 = .ok (.iload_n 3, 1) := by decide +kernel
theorem dX5_wholeBy_35 : decode cX5_wholeBy 35 = .ok (.ishl, 1) := by decide +kernel
theorem dX5_wholeBy_36 : decode cX5_wholeBy 36 = .ok (.goto 4, 3) := by decide +kernel
theorem dX5_wholeBy_39 : decode cX5_wholeBy 39 = .ok (.iconst 0, 1) := by decide +kernel
theorem dX5_wholeBy_40 : decode cX5_wholeBy 40 = .ok (.ior, 1) := by decide +kernel
theorem dX5_wholeBy_41 : decode cX5_wholeBy 41 = .ok (.istore_n 2, 1) := by decide +kernel
theorem dX5_wholeBy_42 : decode cX5_wholeBy 42 = .ok (.iinc 3 1, 3) := by decide +kernel
theorem dX5_wholeBy_45 : decode cX5_wholeBy 45 = .ok (.goto (-41), 3) := by decide +kernel
theorem dX5_wholeBy_48 : decode cX5_wholeBy 48 = .ok (.iload_n 2, 1) := by decide +kernel
theorem dX5_wholeBy_49 : decode cX5_wholeBy 49 = .ok (.ireturn, 1) := by decide +kernel
theorem dX5_weight_0 : decode cX5_weight 0 = .ok (.aload_n 0, 1) := by decide +kernel
theorem dX5_weight_1 : decode cX5_weight 1 = .ok (.iload_n 1, 1) := by decide +kernel
theorem dX5_weight_2 : decode cX5_weight 2 = .ok (.iconst 1, 1) := by decide +kernel
theorem dX5_weight_3 : decode cX5_weight 3 = .ok (.invokevirtual 47, 3) := by decide +kernel
theorem dX5_weight_6 : decode cX5_weight 6 = .ok (.i2l, 1) := by decide +kernel
theorem dX5_weight_7 : decode cX5_weight 7 = .ok (.aload_n 0, 1) := by decide +kernel
theorem dX5_weight_8 : decode cX5_weight 8 = .ok (.iload_n 1, 1) := by decide +kernel
theorem dX5_weight_9 : decode cX5_weight 9 = .ok (.iconst 1, 1) := by decide +kernel
theorem dX5_weight_10 : decode cX5_weight 10 = .ok (.invokevirtual 47, 3) := by decide +kernel
theorem dX5_weight_13 : decode cX5_weight 13 = .ok (.i2l, 1) := by decide +kernel
theorem dX5_weight_14 : decode cX5_weight 14 = .ok (.lmul, 1) := by decide +kernel
theorem dX5_weight_15 : decode cX5_weight 15 = .ok (.aload_n 0, 1) := by decide +kernel
theorem dX5_weight_16 : decode cX5_weight 16 = .ok (.iload_n 1, 1) := by decide +kernel
theorem dX5_weight_17 : decode cX5_weight 17 = .ok (.iconst 2, 1) := by decide +kernel
theorem dX5_weight_18 : decode cX5_weight 18 = .ok (.invokevirtual 47, 3) := by decide +kernel
theorem dX5_weight_21 : decode cX5_weight 21 = .ok (.i2l, 1) := by decide +kernel
theorem dX5_weight_22 : decode cX5_weight 22 = .ok (.lmul, 1) := by decide +kernel
theorem dX5_weight_23 : decode cX5_weight 23 = .ok (.lreturn, 1) := by decide +kernel
theorem dX5_pitch_0 : decode cX5_pitch 0 = .ok (.iload_n 2, 1) := by decide +kernel
theorem dX5_pitch_1 : decode cX5_pitch 1 = .ok (.i2l, 1) := by decide +kernel
theorem dX5_pitch_2 : decode cX5_pitch 2 = .ok (.ldc2_w 51, 3) := by decide +kernel
theorem dX5_pitch_5 : decode cX5_pitch 5 = .ok (.lmul, 1) := by decide +kernel
theorem dX5_pitch_6 : decode cX5_pitch 6 = .ok (.aload_n 0, 1) := by decide +kernel
theorem dX5_pitch_7 : decode cX5_pitch 7 = .ok (.iload_n 1, 1) := by decide +kernel
theorem dX5_pitch_8 : decode cX5_pitch 8 = .ok (.invokevirtual 53, 3) := by decide +kernel
theorem dX5_pitch_11 : decode cX5_pitch 11 = .ok (.ldiv, 1) := by decide +kernel
theorem dX5_pitch_12 : decode cX5_pitch 12 = .ok (.lstore_n 3, 1) := by decide +kernel
theorem dX5_pitch_13 : decode cX5_pitch 13 = .ok (.iconst 0, 1) := by decide +kernel
theorem dX5_pitch_14 : decode cX5_pitch 14 = .ok (.istore 5, 2) := by decide +kernel
theorem dX5_pitch_16 : decode cX5_pitch 16 = .ok (.sipush 16384, 3) := by decide +kernel
theorem dX5_pitch_19 : decode cX5_pitch 19 = .ok (.istore 6, 2) := by decide +kernel
theorem dX5_pitch_21 : decode cX5_pitch 21 = .ok (.iload 6, 2) := by decide +kernel
theorem dX5_pitch_23 : decode cX5_pitch 23 = .ok (.ifCond .le 41, 3) := by decide +kernel
theorem dX5_pitch_26 : decode cX5_pitch 26 = .ok (.iload 5, 2) := by decide +kernel
theorem dX5_pitch_28 : decode cX5_pitch 28 = .ok (.iload 5, 2) := by decide +kernel
theorem dX5_pitch_30 : decode cX5_pitch 30 = .ok (.iload 6, 2) := by decide +kernel
theorem dX5_pitch_32 : decode cX5_pitch 32 = .ok (.iadd, 1) := by decide +kernel
theorem dX5_pitch_33 : decode cX5_pitch 33 = .ok (.i2l, 1) := by decide +kernel
theorem dX5_pitch_34 : decode cX5_pitch 34 = .ok (.iload 5, 2) := by decide +kernel
theorem dX5_pitch_36 : decode cX5_pitch 36 = .ok (.iload 6, 2) := by decide +kernel
theorem dX5_pitch_38 : decode cX5_pitch 38 = .ok (.iadd, 1) := by decide +kernel
theorem dX5_pitch_39 : decode cX5_pitch 39 = .ok (.i2l, 1) := by decide +kernel
theorem dX5_pitch_40 : decode cX5_pitch 40 = .ok (.lmul, 1) := by decide +kernel
theorem dX5_pitch_41 : decode cX5_pitch 41 = .ok (.lload_n 3, 1) := by decide +kernel
theorem dX5_pitch_42 : decode cX5_pitch 42 = .ok (.lcmp, 1) := by decide +kernel
theorem dX5_pitch_43 : decode cX5_pitch 43 = .ok (.ifCond .gt 8, 3) := by decide +kernel
theorem dX5_pitch_46 : decode cX5_pitch 46 = .ok (.iload 6, 2) := by decide +kernel
theorem dX5_pitch_48 : decode cX5_pitch 48 = .ok (.goto 4, 3) := by decide +kernel
theorem dX5_pitch_51 : decode cX5_pitch 51 = .ok (.iconst 0, 1) := by decide +kernel
theorem dX5_pitch_52 : decode cX5_pitch 52 = .ok (.iadd, 1) := by decide +kernel
theorem dX5_pitch_53 : decode cX5_pitch 53 = .ok (.istore 5, 2) := by decide +kernel
theorem dX5_pitch_55 : decode cX5_pitch 55 = .ok (.iload 6, 2) := by decide +kernel
theorem dX5_pitch_57 : decode cX5_pitch 57 = .ok (.iconst 2, 1) := by decide +kernel
theorem dX5_pitch_58 : decode cX5_pitch 58 = .ok (.idiv, 1) := by decide +kernel
theorem dX5_pitch_59 : decode cX5_pitch 59 = .ok (.istore 6, 2) := by decide +kernel
theorem dX5_pitch_61 : decode cX5_pitch 61 = .ok (.goto (-40), 3) := by decide +kernel
theorem dX5_pitch_64 : decode cX5_pitch 64 = .ok (.iload 5, 2) := by decide +kernel
theorem dX5_pitch_66 : decode cX5_pitch 66 = .ok (.ireturn, 1) := by decide +kernel
theorem dX5_leastFor_0 : decode cX5_leastFor 0 = .ok (.iload_n 2, 1) := by decide +kernel
theorem dX5_leastFor_1 : decode cX5_leastFor 1 = .ok (.i2l, 1) := by decide +kernel
theorem dX5_leastFor_2 : decode cX5_leastFor 2 = .ok (.iload_n 2, 1) := by decide +kernel
theorem dX5_leastFor_3 : decode cX5_leastFor 3 = .ok (.i2l, 1) := by decide +kernel
theorem dX5_leastFor_4 : decode cX5_leastFor 4 = .ok (.lmul, 1) := by decide +kernel
theorem dX5_leastFor_5 : decode cX5_leastFor 5 = .ok (.aload_n 0, 1) := by decide +kernel
theorem dX5_leastFor_6 : decode cX5_leastFor 6 = .ok (.iload_n 1, 1) := by decide +kernel
theorem dX5_leastFor_7 : decode cX5_leastFor 7 = .ok (.invokevirtual 53, 3) := by decide +kernel
theorem dX5_leastFor_10 : decode cX5_leastFor 10 = .ok (.lmul, 1) := by decide +kernel
theorem dX5_leastFor_11 : decode cX5_leastFor 11 = .ok (.ldc2_w 51, 3) := by decide +kernel
theorem dX5_leastFor_14 : decode cX5_leastFor 14 = .ok (.ladd, 1) := by decide +kernel
theorem dX5_leastFor_15 : decode cX5_leastFor 15 = .ok (.lconst 1, 1) := by decide +kernel
theorem dX5_leastFor_16 : decode cX5_leastFor 16 = .ok (.lsub, 1) := by decide +kernel
theorem dX5_leastFor_17 : decode cX5_leastFor 17 = .ok (.ldc2_w 51, 3) := by decide +kernel
theorem dX5_leastFor_20 : decode cX5_leastFor 20 = .ok (.ldiv, 1) := by decide +kernel
theorem dX5_leastFor_21 : decode cX5_leastFor 21 = .ok (.lreturn, 1) := by decide +kernel
theorem dX5_nearest_0 : decode cX5_nearest 0 = .ok (.bipush (-6), 2) := by decide +kernel
theorem dX5_nearest_2 : decode cX5_nearest 2 = .ok (.istore 4, 2) := by decide +kernel
theorem dX5_nearest_4 : decode cX5_nearest 4 = .ok (.iconst 0, 1) := by decide +kernel
theorem dX5_nearest_5 : decode cX5_nearest 5 = .ok (.istore 5, 2) := by decide +kernel
theorem dX5_nearest_7 : decode cX5_nearest 7 = .ok (.iload 5, 2) := by decide +kernel
theorem dX5_nearest_9 : decode cX5_nearest 9 = .ok (.aload_n 0, 1) := by decide +kernel
theorem dX5_nearest_10 : decode cX5_nearest 10 = .ok (.getfield 7, 3) := by decide +kernel
theorem dX5_nearest_13 : decode cX5_nearest 13 = .ok (.iconst 3, 1) := by decide +kernel
theorem dX5_nearest_14 : decode cX5_nearest 14 = .ok (.iaload, 1) := by decide +kernel
theorem dX5_nearest_15 : decode cX5_nearest 15 = .ok (.if_icmp .ge 79, 3) := by decide +kernel
theorem dX5_nearest_18 : decode cX5_nearest 18 = .ok (.iload_n 1, 1) := by decide +kernel
theorem dX5_nearest_19 : decode cX5_nearest 19 = .ok (.iload 5, 2) := by decide +kernel
theorem dX5_nearest_21 : decode cX5_nearest 21 = .ok (.ishr, 1) := by decide +kernel
theorem dX5_nearest_22 : decode cX5_nearest 22 = .ok (.iconst 1, 1) := by decide +kernel
theorem dX5_nearest_23 : decode cX5_nearest 23 = .ok (.iand, 1) := by decide +kernel
theorem dX5_nearest_24 : decode cX5_nearest 24 = .ok (.iconst 1, 1) := by decide +kernel
theorem dX5_nearest_25 : decode cX5_nearest 25 = .ok (.if_icmp .ne 21, 3) := by decide +kernel
theorem dX5_nearest_28 : decode cX5_nearest 28 = .ok (.aload_n 0, 1) := by decide +kernel
theorem dX5_nearest_29 : decode cX5_nearest 29 = .ok (.iload 5, 2) := by decide +kernel
theorem dX5_nearest_31 : decode cX5_nearest 31 = .ok (.iconst 0, 1) := by decide +kernel
theorem dX5_nearest_32 : decode cX5_nearest 32 = .ok (.invokevirtual 47, 3) := by decide +kernel
theorem dX5_nearest_35 : decode cX5_nearest 35 = .ok (.iload_n 2, 1) := by decide +kernel
theorem dX5_nearest_36 : decode cX5_nearest 36 = .ok (.isub, 1) := by decide +kernel
theorem dX5_nearest_37 : decode cX5_nearest 37 = .ok (.iload_n 3, 1) := by decide +kernel
theorem dX5_nearest_38 : decode cX5_nearest 38 = .ok (.imul, 1) := by decide +kernel
theorem dX5_nearest_39 : decode cX5_nearest 39 = .ok (.ifCond .lt 7, 3) := by decide +kernel
theorem dX5_nearest_42 : decode cX5_nearest 42 = .ok (.iconst 1, 1) := by decide +kernel
theorem dX5_nearest_43 : decode cX5_nearest 43 = .ok (.goto 4, 3) := by decide +kernel
theorem dX5_nearest_46 : decode cX5_nearest 46 = .ok (.iconst 0, 1) := by decide +kernel
theorem dX5_nearest_47 : decode cX5_nearest 47 = .ok (.istore 6, 2) := by decide +kernel
theorem dX5_nearest_49 : decode cX5_nearest 49 = .ok (.iload 6, 2) := by decide +kernel
theorem dX5_nearest_51 : decode cX5_nearest 51 = .ok (.ifCond .eq 33, 3) := by decide +kernel
theorem dX5_nearest_54 : decode cX5_nearest 54 = .ok (.iload 4, 2) := by decide +kernel
theorem dX5_nearest_56 : decode cX5_nearest 56 = .ok (.ifCond .lt 23, 3) := by decide +kernel
theorem dX5_nearest_59 : decode cX5_nearest 59 = .ok (.aload_n 0, 1) := by decide +kernel
theorem dX5_nearest_60 : decode cX5_nearest 60 = .ok (.iload 5, 2) := by decide +kernel
theorem dX5_nearest_62 : decode cX5_nearest 62 = .ok (.iconst 0, 1) := by decide +kernel
theorem dX5_nearest_63 : decode cX5_nearest 63 = .ok (.invokevirtual 47, 3) := by decide +kernel
theorem dX5_nearest_66 : decode cX5_nearest 66 = .ok (.aload_n 0, 1) := by decide +kernel
theorem dX5_nearest_67 : decode cX5_nearest 67 = .ok (.iload 4, 2) := by decide +kernel
theorem dX5_nearest_69 : decode cX5_nearest 69 = .ok (.iconst 0, 1) := by decide +kernel
theorem dX5_nearest_70 : decode cX5_nearest 70 = .ok (.invokevirtual 47, 3) := by decide +kernel
theorem dX5_nearest_73 : decode cX5_nearest 73 = .ok (.isub, 1) := by decide +kernel
theorem dX5_nearest_74 : decode cX5_nearest 74 = .ok (.iload_n 3, 1) := by decide +kernel
theorem dX5_nearest_75 : decode cX5_nearest 75 = .ok (.imul, 1) := by decide +kernel
theorem dX5_nearest_76 : decode cX5_nearest 76 = .ok (.ifCond .ge 8, 3) := by decide +kernel
theorem dX5_nearest_79 : decode cX5_nearest 79 = .ok (.iload 5, 2) := by decide +kernel
theorem dX5_nearest_81 : decode cX5_nearest 81 = .ok (.goto 5, 3) := by decide +kernel
theorem dX5_nearest_84 : decode cX5_nearest 84 = .ok (.iload 4, 2) := by decide +kernel
theorem dX5_nearest_86 : decode cX5_nearest 86 = .ok (.istore 4, 2) := by decide +kernel
theorem dX5_nearest_88 : decode cX5_nearest 88 = .ok (.iinc 5 1, 3) := by decide +kernel
theorem dX5_nearest_91 : decode cX5_nearest 91 = .ok (.goto (-84), 3) := by decide +kernel
theorem dX5_nearest_94 : decode cX5_nearest 94 = .ok (.iload 4, 2) := by decide +kernel
theorem dX5_nearest_96 : decode cX5_nearest 96 = .ok (.ireturn, 1) := by decide +kernel
theorem dX5_layTasks_0 : decode cX5_layTasks 0 = .ok (.iconst 0, 1) := by decide +kernel
theorem dX5_layTasks_1 : decode cX5_layTasks 1 = .ok (.istore_n 2, 1) := by decide +kernel
theorem dX5_layTasks_2 : decode cX5_layTasks 2 = .ok (.iload_n 2, 1) := by decide +kernel
theorem dX5_layTasks_3 : decode cX5_layTasks 3 = .ok (.bipush 8, 2) := by decide +kernel
theorem dX5_layTasks_5 : decode cX5_layTasks 5 = .ok (.if_icmp .ge 16, 3) := by decide +kernel
theorem dX5_layTasks_8 : decode cX5_layTasks 8 = .ok (.aload_n 0, 1) := by decide +kernel
theorem dX5_layTasks_9 : decode cX5_layTasks 9 = .ok (.getfield 29, 3) := by decide +kernel
theorem dX5_layTasks_12 : decode cX5_layTasks 12 = .ok (.iload_n 2, 1) := by decide +kernel
theorem dX5_layTasks_13 : decode cX5_layTasks 13 = .ok (.iconst 0, 1) := by decide +kernel
theorem dX5_layTasks_14 : decode cX5_layTasks 14 = .ok (.iastore, 1) := by decide +kernel
theorem dX5_layTasks_15 : decode cX5_layTasks 15 = .ok (.iinc 2 1, 3) := by decide +kernel
theorem dX5_layTasks_18 : decode cX5_layTasks 18 = .ok (.goto (-16), 3) := by decide +kernel
theorem dX5_layTasks_21 : decode cX5_layTasks 21 = .ok (.iconst 0, 1) := by decide +kernel
theorem dX5_layTasks_22 : decode cX5_layTasks 22 = .ok (.istore_n 2, 1) := by decide +kernel
theorem dX5_layTasks_23 : decode cX5_layTasks 23 = .ok (.iload_n 2, 1) := by decide +kernel
theorem dX5_layTasks_24 : decode cX5_layTasks 24 = .ok (.bipush 20, 2) := by decide +kernel
theorem dX5_layTasks_26 : decode cX5_layTasks 26 = .ok (.if_icmp .ge 156, 3) := by decide +kernel
theorem dX5_layTasks_29 : decode cX5_layTasks 29 = .ok (.aload_n 0, 1) := by decide +kernel
theorem dX5_layTasks_30 : decode cX5_layTasks 30 = .ok (.getfield 7, 3) := by decide +kernel
theorem dX5_layTasks_33 : decode cX5_layTasks 33 = .ok (.bipush 10, 2) := by decide +kernel
theorem dX5_layTasks_35 : decode cX5_layTasks 35 = .ok (.iload_n 2, 1) := by decide +kernel
theorem dX5_layTasks_36 : decode cX5_layTasks 36 = .ok (.iadd, 1) := by decide +kernel
theorem dX5_layTasks_37 : decode cX5_layTasks 37 = .ok (.iaload, 1) := by decide +kernel
theorem dX5_layTasks_38 : decode cX5_layTasks 38 = .ok (.istore_n 3, 1) := by decide +kernel
theorem dX5_layTasks_39 : decode cX5_layTasks 39 = .ok (.aload_n 0, 1) := by decide +kernel
theorem dX5_layTasks_40 : decode cX5_layTasks 40 = .ok (.iload_n 1, 1) := by decide +kernel
theorem dX5_layTasks_41 : decode cX5_layTasks 41 = .ok (.iload_n 2, 1) := by decide +kernel
theorem dX5_layTasks_42 : decode cX5_layTasks 42 = .ok (.iconst (-1), 1) := by decide +kernel
theorem dX5_layTasks_43 : decode cX5_layTasks 43 = .ok (.invokevirtual 57, 3) := by decide +kernel
theorem dX5_layTasks_46 : decode cX5_layTasks 46 = .ok (.istore 4, 2) := by decide +kernel
theorem dX5_layTasks_48 : decode cX5_layTasks 48 = .ok (.aload_n 0, 1) := by decide +kernel
theorem dX5_layTasks_49 : decode cX5_layTasks 49 = .ok (.iload_n 1, 1) := by decide +kernel
theorem dX5_layTasks_50 : decode cX5_layTasks 50 = .ok (.iload_n 2, 1) := by decide +kernel
theorem dX5_layTasks_51 : decode cX5_layTasks 51 = .ok (.iconst 1, 1) := by decide +kernel
theorem dX5_layTasks_52 : decode cX5_layTasks 52 = .ok (.invokevirtual 57, 3) := by decide +kernel
theorem dX5_layTasks_55 : decode cX5_layTasks 55 = .ok (.istore 5, 2) := by decide +kernel
theorem dX5_layTasks_57 : decode cX5_layTasks 57 = .ok (.iload 4, 2) := by decide +kernel
theorem dX5_layTasks_59 : decode cX5_layTasks 59 = .ok (.ifCond .lt 83, 3) := by decide +kernel
theorem dX5_layTasks_62 : decode cX5_layTasks 62 = .ok (.iload 5, 2) := by decide +kernel
theorem dX5_layTasks_64 : decode cX5_layTasks 64 = .ok (.ifCond .lt 78, 3) := by decide +kernel
theorem dX5_layTasks_67 : decode cX5_layTasks 67 = .ok (.iload 4, 2) := by decide +kernel
theorem dX5_layTasks_69 : decode cX5_layTasks 69 = .ok (.iload 5, 2) := by decide +kernel
theorem dX5_layTasks_71 : decode cX5_layTasks 71 = .ok (.if_icmp .eq 71, 3) := by decide +kernel
theorem dX5_layTasks_74 : decode cX5_layTasks 74 = .ok (.iload_n 2, 1) := by decide +kernel
theorem dX5_layTasks_75 : decode cX5_layTasks 75 = .ok (.aload_n 0, 1) := by decide +kernel
theorem dX5_layTasks_76 : decode cX5_layTasks 76 = .ok (.iload 4, 2) := by decide +kernel
theorem dX5_layTasks_78 : decode cX5_layTasks 78 = .ok (.iconst 0, 1) := by decide +kernel
theorem dX5_layTasks_79 : decode cX5_layTasks 79 = .ok (.invokevirtual 47, 3) := by decide +kernel
theorem dX5_layTasks_82 : decode cX5_layTasks 82 = .ok (.isub, 1) := by decide +kernel
theorem dX5_layTasks_83 : decode cX5_layTasks 83 = .ok (.istore 6, 2) := by decide +kernel
theorem dX5_layTasks_85 : decode cX5_layTasks 85 = .ok (.iload_n 3, 1) := by decide +kernel
theorem dX5_layTasks_86 : decode cX5_layTasks 86 = .ok (.iload 6, 2) := by decide +kernel
theorem dX5_layTasks_88 : decode cX5_layTasks 88 = .ok (.imul, 1) := by decide +kernel
theorem dX5_layTasks_89 : decode cX5_layTasks 89 = .ok (.aload_n 0, 1) := by decide +kernel
theorem dX5_layTasks_90 : decode cX5_layTasks 90 = .ok (.iload 5, 2) := by decide +kernel
theorem dX5_layTasks_92 : decode cX5_layTasks 92 = .ok (.iconst 0, 1) := by decide +kernel
theorem dX5_layTasks_93 : decode cX5_layTasks 93 = .ok (.invokevirtual 47, 3) := by decide +kernel
theorem dX5_layTasks_96 : decode cX5_layTasks 96 = .ok (.aload_n 0, 1) := by decide +kernel
theorem dX5_layTasks_97 : decode cX5_layTasks 97 = .ok (.iload 4, 2) := by decide +kernel
theorem dX5_layTasks_99 : decode cX5_layTasks 99 = .ok (.iconst 0, 1) := by decide +kernel
theorem dX5_layTasks_100 : decode cX5_layTasks 100 = .ok (.invokevirtual 47, 3) := by decide +kernel
theorem dX5_layTasks_103 : decode cX5_layTasks 103 = .ok (.isub, 1) := by decide +kernel
theorem dX5_layTasks_104 : decode cX5_layTasks 104 = .ok (.idiv, 1) := by decide +kernel
theorem dX5_layTasks_105 : decode cX5_layTasks 105 = .ok (.istore 7, 2) := by decide +kernel
theorem dX5_layTasks_107 : decode cX5_layTasks 107 = .ok (.aload_n 0, 1) := by decide +kernel
theorem dX5_layTasks_108 : decode cX5_layTasks 108 = .ok (.getfield 29, 3) := by decide +kernel
theorem dX5_layTasks_111 : decode cX5_layTasks 111 = .ok (.iload 5, 2) := by decide +kernel
theorem dX5_layTasks_113 : decode cX5_layTasks 113 = .ok (.dup2, 1) := by decide +kernel
theorem dX5_layTasks_114 : decode cX5_layTasks 114 = .ok (.iaload, 1) := by decide +kernel
theorem dX5_layTasks_115 : decode cX5_layTasks 115 = .ok (.bipush 10, 2) := by decide +kernel
theorem dX5_layTasks_117 : decode cX5_layTasks 117 = .ok (.iload 7, 2) := by decide +kernel
theorem dX5_layTasks_119 : decode cX5_layTasks 119 = .ok (.imul, 1) := by decide +kernel
theorem dX5_layTasks_120 : decode cX5_layTasks 120 = .ok (.iadd, 1) := by decide +kernel
theorem dX5_layTasks_121 : decode cX5_layTasks 121 = .ok (.iastore, 1) := by decide +kernel
theorem dX5_layTasks_122 : decode cX5_layTasks 122 = .ok (.aload_n 0, 1) := by decide +kernel
theorem dX5_layTasks_123 : decode cX5_layTasks 123 = .ok (.getfield 29, 3) := by decide +kernel
theorem dX5_layTasks_126 : decode cX5_layTasks 126 = .ok (.iload 4, 2) := by decide +kernel
theorem dX5_layTasks_128 : decode cX5_layTasks 128 = .ok (.dup2, 1) := by decide +kernel
theorem dX5_layTasks_129 : decode cX5_layTasks 129 = .ok (.iaload, 1) := by decide +kernel
theorem dX5_layTasks_130 : decode cX5_layTasks 130 = .ok (.bipush 10, 2) := by decide +kernel
theorem dX5_layTasks_132 : decode cX5_layTasks 132 = .ok (.iload_n 3, 1) := by decide +kernel
theorem dX5_layTasks_133 : decode cX5_layTasks 133 = .ok (.iload 7, 2) := by decide +kernel
theorem dX5_layTasks_135 : decode cX5_layTasks 135 = .ok (.isub, 1) := by decide +kernel
theorem dX5_layTasks_136 : decode cX5_layTasks 136 = .ok (.imul, 1) := by decide +kernel
theorem dX5_layTasks_137 : decode cX5_layTasks 137 = .ok (.iadd, 1) := by decide +kernel
theorem dX5_layTasks_138 : decode cX5_layTasks 138 = .ok (.iastore, 1) := by decide +kernel
theorem dX5_layTasks_139 : decode cX5_layTasks 139 = .ok (.goto 37, 3) := by decide +kernel
theorem dX5_layTasks_142 : decode cX5_layTasks 142 = .ok (.iload 4, 2) := by decide +kernel
theorem dX5_layTasks_144 : decode cX5_layTasks 144 = .ok (.ifCond .ge 8, 3) := by decide +kernel
theorem dX5_layTasks_147 : decode cX5_layTasks 147 = .ok (.iload 5, 2) := by decide +kernel
theorem dX5_layTasks_149 : decode cX5_layTasks 149 = .ok (.ifCond .lt 27, 3) := by decide +kernel
theorem dX5_layTasks_152 : decode cX5_layTasks 152 = .ok (.aload_n 0, 1) := by decide +kernel
theorem dX5_layTasks_153 : decode cX5_layTasks 153 = .ok (.getfield 29, 3) := by decide +kernel
theorem dX5_layTasks_156 : decode cX5_layTasks 156 = .ok (.iload 4, 2) := by decide +kernel
theorem dX5_layTasks_158 : decode cX5_layTasks 158 = .ok (.ifCond .lt 8, 3) := by decide +kernel
theorem dX5_layTasks_161 : decode cX5_layTasks 161 = .ok (.iload 4, 2) := by decide +kernel
theorem dX5_layTasks_163 : decode cX5_layTasks 163 = .ok (.goto 5, 3) := by decide +kernel
theorem dX5_layTasks_166 : decode cX5_layTasks 166 = .ok (.iload 5, 2) := by decide +kernel
theorem dX5_layTasks_168 : decode cX5_layTasks 168 = .ok (.dup2, 1) := by decide +kernel
theorem dX5_layTasks_169 : decode cX5_layTasks 169 = .ok (.iaload, 1) := by decide +kernel
theorem dX5_layTasks_170 : decode cX5_layTasks 170 = .ok (.bipush 10, 2) := by decide +kernel
theorem dX5_layTasks_172 : decode cX5_layTasks 172 = .ok (.iload_n 3, 1) := by decide +kernel
theorem dX5_layTasks_173 : decode cX5_layTasks 173 = .ok (.imul, 1) := by decide +kernel
theorem dX5_layTasks_174 : decode cX5_layTasks 174 = .ok (.iadd, 1) := by decide +kernel
theorem dX5_layTasks_175 : decode cX5_layTasks 175 = .ok (.iastore, 1) := by decide +kernel
theorem dX5_layTasks_176 : decode cX5_layTasks 176 = .ok (.iinc 2 1, 3) := by decide +kernel
theorem dX5_layTasks_179 : decode cX5_layTasks 179 = .ok (.goto (-156), 3) := by decide +kernel
theorem dX5_layTasks_182 : decode cX5_layTasks 182 = .ok (.return_, 1) := by decide +kernel
theorem dX5_burst_0 : decode cX5_burst 0 = .ok (.aload_n 0, 1) := by decide +kernel
theorem dX5_burst_1 : decode cX5_burst 1 = .ok (.aload_n 0, 1) := by decide +kernel
theorem dX5_burst_2 : decode cX5_burst 2 = .ok (.iconst 0, 1) := by decide +kernel
theorem dX5_burst_3 : decode cX5_burst 3 = .ok (.invokevirtual 61, 3) := by decide +kernel
theorem dX5_burst_6 : decode cX5_burst 6 = .ok (.invokevirtual 65, 3) := by decide +kernel
theorem dX5_burst_9 : decode cX5_burst 9 = .ok (.bipush (-6), 2) := by decide +kernel
theorem dX5_burst_11 : decode cX5_burst 11 = .ok (.istore_n 1, 1) := by decide +kernel
theorem dX5_burst_12 : decode cX5_burst 12 = .ok (.iconst 0, 1) := by decide +kernel
theorem dX5_burst_13 : decode cX5_burst 13 = .ok (.istore_n 2, 1) := by decide +kernel
theorem dX5_burst_14 : decode cX5_burst 14 = .ok (.iconst 0, 1) := by decide +kernel
theorem dX5_burst_15 : decode cX5_burst 15 = .ok (.istore_n 3, 1) := by decide +kernel
theorem dX5_burst_16 : decode cX5_burst 16 = .ok (.iload_n 3, 1) := by decide +kernel
theorem dX5_burst_17 : decode cX5_burst 17 = .ok (.aload_n 0, 1) := by decide +kernel
theorem dX5_burst_18 : decode cX5_burst 18 = .ok (.getfield 7, 3) := by decide +kernel
theorem dX5_burst_21 : decode cX5_burst 21 = .ok (.iconst 3, 1) := by decide +kernel
theorem dX5_burst_22 : decode cX5_burst 22 = .ok (.iaload, 1) := by decide +kernel
theorem dX5_burst_23 : decode cX5_burst 23 = .ok (.if_icmp .ge 47, 3) := by decide +kernel
theorem dX5_burst_26 : decode cX5_burst 26 = .ok (.aload_n 0, 1) := by decide +kernel
theorem dX5_burst_27 : decode cX5_burst 27 = .ok (.iload_n 3, 1) := by decide +kernel
theorem dX5_burst_28 : decode cX5_burst 28 = .ok (.invokevirtual 69, 3) := by decide +kernel
theorem dX5_burst_31 : decode cX5_burst 31 = .ok (.ifCond .eq 19, 3) := by decide +kernel
theorem dX5_burst_34 : decode cX5_burst 34 = .ok (.aload_n 0, 1) := by decide +kernel
theorem dX5_burst_35 : decode cX5_burst 35 = .ok (.getfield 29, 3) := by decide +kernel
theorem dX5_burst_38 : decode cX5_burst 38 = .ok (.iload_n 3, 1) := by decide +kernel
theorem dX5_burst_39 : decode cX5_burst 39 = .ok (.iaload, 1) := by decide +kernel
theorem dX5_burst_40 : decode cX5_burst 40 = .ok (.aload_n 0, 1) := by decide +kernel
theorem dX5_burst_41 : decode cX5_burst 41 = .ok (.iload_n 3, 1) := by decide +kernel
theorem dX5_burst_42 : decode cX5_burst 42 = .ok (.iconst 3, 1) := by decide +kernel
theorem dX5_burst_43 : decode cX5_burst 43 = .ok (.invokevirtual 47, 3) := by decide +kernel
theorem dX5_burst_46 : decode cX5_burst 46 = .ok (.isub, 1) := by decide +kernel
theorem dX5_burst_47 : decode cX5_burst 47 = .ok (.goto 4, 3) := by decide +kernel
theorem dX5_burst_50 : decode cX5_burst 50 = .ok (.iconst 0, 1) := by decide +kernel
theorem dX5_burst_51 : decode cX5_burst 51 = .ok (.istore 4, 2) := by decide +kernel
theorem dX5_burst_53 : decode cX5_burst 53 = .ok (.iload 4, 2) := by decide +kernel
theorem dX5_burst_55 : decode cX5_burst 55 = .ok (.iload_n 2, 1) := by decide +kernel
theorem dX5_burst_56 : decode cX5_burst 56 = .ok (.if_icmp .le 8, 3) := by decide +kernel
theorem dX5_burst_59 : decode cX5_burst 59 = .ok (.iload_n 3, 1) := by decide +kernel
theorem dX5_burst_60 : decode cX5_burst 60 = .ok (.istore_n 1, 1) := by decide +kernel
theorem dX5_burst_61 : decode cX5_burst 61 = .ok (.iload 4, 2) := by decide +kernel
theorem dX5_burst_63 : decode cX5_burst 63 = .ok (.istore_n 2, 1) := by decide +kernel
theorem dX5_burst_64 : decode cX5_burst 64 = .ok (.iinc 3 1, 3) := by decide +kernel
theorem dX5_burst_67 : decode cX5_burst 67 = .ok (.goto (-51), 3) := by decide +kernel
theorem dX5_burst_70 : decode cX5_burst 70 = .ok (.iload_n 1, 1) := by decide +kernel
theorem dX5_burst_71 : decode cX5_burst 71 = .ok (.ireturn, 1) := by decide +kernel
theorem dX5_breakWire_0 : decode cX5_breakWire 0 = .ok (.aload_n 0, 1) := by decide +kernel
theorem dX5_breakWire_1 : decode cX5_breakWire 1 = .ok (.iload_n 1, 1) := by decide +kernel
theorem dX5_breakWire_2 : decode cX5_breakWire 2 = .ok (.iconst 5, 1) := by decide +kernel
theorem dX5_breakWire_3 : decode cX5_breakWire 3 = .ok (.iconst 1, 1) := by decide +kernel
theorem dX5_breakWire_4 : decode cX5_breakWire 4 = .ok (.invokevirtual 73, 3) := by decide +kernel
theorem dX5_breakWire_7 : decode cX5_breakWire 7 = .ok (.aload_n 0, 1) := by decide +kernel
theorem dX5_breakWire_8 : decode cX5_breakWire 8 = .ok (.iload_n 1, 1) := by decide +kernel
theorem dX5_breakWire_9 : decode cX5_breakWire 9 = .ok (.iconst 4, 1) := by decide +kernel
theorem dX5_breakWire_10 : decode cX5_breakWire 10 = .ok (.iconst 0, 1) := by decide +kernel
theorem dX5_breakWire_11 : decode cX5_breakWire 11 = .ok (.invokevirtual 73, 3) := by decide +kernel
theorem dX5_breakWire_14 : decode cX5_breakWire 14 = .ok (.aload_n 0, 1) := by decide +kernel
theorem dX5_breakWire_15 : decode cX5_breakWire 15 = .ok (.iload_n 1, 1) := by decide +kernel
theorem dX5_breakWire_16 : decode cX5_breakWire 16 = .ok (.bipush 6, 2) := by decide +kernel
theorem dX5_breakWire_18 : decode cX5_breakWire 18 = .ok (.aload_n 0, 1) := by decide +kernel
theorem dX5_breakWire_19 : decode cX5_breakWire 19 = .ok (.getfield 7, 3) := by decide +kernel
theorem dX5_breakWire_22 : decode cX5_breakWire 22 = .ok (.iconst 2, 1) := by decide +kernel
theorem dX5_breakWire_23 : decode cX5_breakWire 23 = .ok (.iaload, 1) := by decide +kernel
theorem dX5_breakWire_24 : decode cX5_breakWire 24 = .ok (.invokevirtual 73, 3) := by decide +kernel
theorem dX5_breakWire_27 : decode cX5_breakWire 27 = .ok (.return_, 1) := by decide +kernel
theorem dX5_settle_0 : decode cX5_settle 0 = .ok (.iconst 0, 1) := by decide +kernel
theorem dX5_settle_1 : decode cX5_settle 1 = .ok (.istore_n 1, 1) := by decide +kernel
theorem dX5_settle_2 : decode cX5_settle 2 = .ok (.aload_n 0, 1) := by decide +kernel
theorem dX5_settle_3 : decode cX5_settle 3 = .ok (.invokevirtual 77, 3) := by decide +kernel
theorem dX5_settle_6 : decode cX5_settle 6 = .ok (.istore_n 2, 1) := by decide +kernel
theorem dX5_settle_7 : decode cX5_settle 7 = .ok (.iload_n 2, 1) := by decide +kernel
theorem dX5_settle_8 : decode cX5_settle 8 = .ok (.ifCond .lt 19, 3) := by decide +kernel
theorem dX5_settle_11 : decode cX5_settle 11 = .ok (.aload_n 0, 1) := by decide +kernel
theorem dX5_settle_12 : decode cX5_settle 12 = .ok (.iload_n 2, 1) := by decide +kernel
theorem dX5_settle_13 : decode cX5_settle 13 = .ok (.invokevirtual 81, 3) := by decide +kernel
theorem dX5_settle_16 : decode cX5_settle 16 = .ok (.iinc 1 1, 3) := by decide +kernel
theorem dX5_settle_19 : decode cX5_settle 19 = .ok (.aload_n 0, 1) := by decide +kernel
theorem dX5_settle_20 : decode cX5_settle 20 = .ok (.invokevirtual 77, 3) := by decide +kernel
theorem dX5_settle_23 : decode cX5_settle 23 = .ok (.istore_n 2, 1) := by decide +kernel
theorem dX5_settle_24 : decode cX5_settle 24 = .ok (.goto (-17), 3) := by decide +kernel
theorem dX5_settle_27 : decode cX5_settle 27 = .ok (.iload_n 1, 1) := by decide +kernel
theorem dX5_settle_28 : decode cX5_settle 28 = .ok (.ireturn, 1) := by decide +kernel
theorem dX5_set_0 : decode cX5_set 0 = .ok (.iload_n 1, 1) := by decide +kernel
theorem dX5_set_1 : decode cX5_set 1 = .ok (.iconst 0, 1) := by decide +kernel
theorem dX5_set_2 : decode cX5_set 2 = .ok (.iconst 1, 1) := by decide +kernel
theorem dX5_set_3 : decode cX5_set 3 = .ok (.invokestatic 43, 3) := by decide +kernel
theorem dX5_set_6 : decode cX5_set 6 = .ok (.ifCond .eq 13, 3) := by decide +kernel
theorem dX5_set_9 : decode cX5_set 9 = .ok (.iload_n 2, 1) := by decide +kernel
theorem dX5_set_10 : decode cX5_set 10 = .ok (.iconst 0, 1) := by decide +kernel
theorem dX5_set_11 : decode cX5_set 11 = .ok (.bipush 100, 2) := by decide +kernel
theorem dX5_set_13 : decode cX5_set 13 = .ok (.invokestatic 43, 3) := by decide +kernel
theorem dX5_set_16 : decode cX5_set 16 = .ok (.ifCond .ne 6, 3) := by decide +kernel
theorem dX5_set_19 : decode cX5_set 19 = .ok (.bipush (-2), 2) := by decide +kernel
theorem dX5_set_21 : decode cX5_set 21 = .ok (.ireturn, 1) := by decide +kernel
theorem dX5_set_22 : decode cX5_set 22 = .ok (.aload_n 0, 1) := by decide +kernel
theorem dX5_set_23 : decode cX5_set 23 = .ok (.invokevirtual 84, 3) := by decide +kernel
theorem dX5_set_26 : decode cX5_set 26 = .ok (.aload_n 0, 1) := by decide +kernel
theorem dX5_set_27 : decode cX5_set 27 = .ok (.getfield 7, 3) := by decide +kernel
theorem dX5_set_30 : decode cX5_set 30 = .ok (.iload_n 1, 1) := by decide +kernel
theorem dX5_set_31 : decode cX5_set 31 = .ok (.iaload, 1) := by decide +kernel
theorem dX5_set_32 : decode cX5_set 32 = .ok (.istore_n 3, 1) := by decide +kernel
theorem dX5_set_33 : decode cX5_set 33 = .ok (.aload_n 0, 1) := by decide +kernel
theorem dX5_set_34 : decode cX5_set 34 = .ok (.getfield 7, 3) := by decide +kernel
theorem dX5_set_37 : decode cX5_set 37 = .ok (.iload_n 1, 1) := by decide +kernel
theorem dX5_set_38 : decode cX5_set 38 = .ok (.iload_n 2, 1) := by decide +kernel
theorem dX5_set_39 : decode cX5_set 39 = .ok (.iastore, 1) := by decide +kernel
theorem dX5_set_40 : decode cX5_set 40 = .ok (.iload_n 3, 1) := by decide +kernel
theorem dX5_set_41 : decode cX5_set 41 = .ok (.ireturn, 1) := by decide +kernel
theorem dX5_wireAt_0 : decode cX5_wireAt 0 = .ok (.bipush (-6), 2) := by decide +kernel
theorem dX5_wireAt_2 : decode cX5_wireAt 2 = .ok (.istore_n 2, 1) := by decide +kernel
theorem dX5_wireAt_3 : decode cX5_wireAt 3 = .ok (.iconst 0, 1) := by decide +kernel
theorem dX5_wireAt_4 : decode cX5_wireAt 4 = .ok (.istore_n 3, 1) := by decide +kernel
theorem dX5_wireAt_5 : decode cX5_wireAt 5 = .ok (.iload_n 3, 1) := by decide +kernel
theorem dX5_wireAt_6 : decode cX5_wireAt 6 = .ok (.aload_n 0, 1) := by decide +kernel
theorem dX5_wireAt_7 : decode cX5_wireAt 7 = .ok (.getfield 7, 3) := by decide +kernel
theorem dX5_wireAt_10 : decode cX5_wireAt 10 = .ok (.iconst 3, 1) := by decide +kernel
theorem dX5_wireAt_11 : decode cX5_wireAt 11 = .ok (.iaload, 1) := by decide +kernel
theorem dX5_wireAt_12 : decode cX5_wireAt 12 = .ok (.if_icmp .ge 25, 3) := by decide +kernel
theorem dX5_wireAt_15 : decode cX5_wireAt 15 = .ok (.aload_n 0, 1) := by decide +kernel
theorem dX5_wireAt_16 : decode cX5_wireAt 16 = .ok (.iload_n 3, 1) := by decide +kernel
theorem dX5_wireAt_17 : decode cX5_wireAt 17 = .ok (.iconst 0, 1) := by decide +kernel
theorem dX5_wireAt_18 : decode cX5_wireAt 18 = .ok (.invokevirtual 47, 3) := by decide +kernel
theorem dX5_wireAt_21 : decode cX5_wireAt 21 = .ok (.iload_n 1, 1) := by decide +kernel
theorem dX5_wireAt_22 : decode cX5_wireAt 22 = .ok (.if_icmp .ne 7, 3) := by decide +kernel
theorem dX5_wireAt_25 : decode cX5_wireAt 25 = .ok (.iload_n 3, 1) := by decide +kernel
theorem dX5_wireAt_26 : decode cX5_wireAt 26 = .ok (.goto 4, 3) := by decide +kernel
theorem dX5_wireAt_29 : decode cX5_wireAt 29 = .ok (.iload_n 2, 1) := by decide +kernel
theorem dX5_wireAt_30 : decode cX5_wireAt 30 = .ok (.istore_n 2, 1) := by decide +kernel
theorem dX5_wireAt_31 : decode cX5_wireAt 31 = .ok (.iinc 3 1, 3) := by decide +kernel
theorem dX5_wireAt_34 : decode cX5_wireAt 34 = .ok (.goto (-29), 3) := by decide +kernel
theorem dX5_wireAt_37 : decode cX5_wireAt 37 = .ok (.iload_n 2, 1) := by decide +kernel
theorem dX5_wireAt_38 : decode cX5_wireAt 38 = .ok (.ireturn, 1) := by decide +kernel
theorem dX5_wire_0 : decode cX5_wire 0 = .ok (.iload_n 1, 1) := by decide +kernel
theorem dX5_wire_1 : decode cX5_wire 1 = .ok (.iconst 0, 1) := by decide +kernel
theorem dX5_wire_2 : decode cX5_wire 2 = .ok (.bipush 19, 2) := by decide +kernel
theorem dX5_wire_4 : decode cX5_wire 4 = .ok (.invokestatic 43, 3) := by decide +kernel
theorem dX5_wire_7 : decode cX5_wire 7 = .ok (.ifCond .eq 48, 3) := by decide +kernel
theorem dX5_wire_10 : decode cX5_wire 10 = .ok (.iload_n 2, 1) := by decide +kernel
theorem dX5_wire_11 : decode cX5_wire 11 = .ok (.bipush 10, 2) := by decide +kernel
theorem dX5_wire_13 : decode cX5_wire 13 = .ok (.sipush 200, 3) := by decide +kernel
theorem dX5_wire_16 : decode cX5_wire 16 = .ok (.invokestatic 43, 3) := by decide +kernel
theorem dX5_wire_19 : decode cX5_wire 19 = .ok (.ifCond .eq 36, 3) := by decide +kernel
theorem dX5_wire_22 : decode cX5_wire 22 = .ok (.iload_n 3, 1) := by decide +kernel
theorem dX5_wire_23 : decode cX5_wire 23 = .ok (.iconst 1, 1) := by decide +kernel
theorem dX5_wire_24 : decode cX5_wire 24 = .ok (.bipush 20, 2) := by decide +kernel
theorem dX5_wire_26 : decode cX5_wire 26 = .ok (.invokestatic 43, 3) := by decide +kernel
theorem dX5_wire_29 : decode cX5_wire 29 = .ok (.ifCond .eq 26, 3) := by decide +kernel
theorem dX5_wire_32 : decode cX5_wire 32 = .ok (.iload 4, 2) := by decide +kernel
theorem dX5_wire_34 : decode cX5_wire 34 = .ok (.bipush 100, 2) := by decide +kernel
theorem dX5_wire_36 : decode cX5_wire 36 = .ok (.ldc 87, 2) := by decide +kernel
theorem dX5_wire_38 : decode cX5_wire 38 = .ok (.invokestatic 43, 3) := by decide +kernel
theorem dX5_wire_41 : decode cX5_wire 41 = .ok (.ifCond .eq 14, 3) := by decide +kernel
theorem dX5_wire_44 : decode cX5_wire 44 = .ok (.iload 5, 2) := by decide +kernel
theorem dX5_wire_46 : decode cX5_wire 46 = .ok (.iconst 0, 1) := by decide +kernel
theorem dX5_wire_47 : decode cX5_wire 47 = .ok (.ldc 87, 2) := by decide +kernel
theorem dX5_wire_49 : decode cX5_wire 49 = .ok (.invokestatic 43, 3) := by decide +kernel
theorem dX5_wire_52 : decode cX5_wire 52 = .ok (.ifCond .ne 6, 3) := by decide +kernel
theorem dX5_wire_55 : decode cX5_wire 55 = .ok (.bipush (-2), 2) := by decide +kernel
theorem dX5_wire_57 : decode cX5_wire 57 = .ok (.ireturn, 1) := by decide +kernel
theorem dX5_wire_58 : decode cX5_wire 58 = .ok (.aload_n 0, 1) := by decide +kernel
theorem dX5_wire_59 : decode cX5_wire 59 = .ok (.getfield 7, 3) := by decide +kernel
theorem dX5_wire_62 : decode cX5_wire 62 = .ok (.iconst 3, 1) := by decide +kernel
theorem dX5_wire_63 : decode cX5_wire 63 = .ok (.iaload, 1) := by decide +kernel
theorem dX5_wire_64 : decode cX5_wire 64 = .ok (.bipush 8, 2) := by decide +kernel
theorem dX5_wire_66 : decode cX5_wire 66 = .ok (.if_icmp .ne 6, 3) := by decide +kernel
theorem dX5_wire_69 : decode cX5_wire 69 = .ok (.bipush (-4), 2) := by decide +kernel
theorem dX5_wire_71 : decode cX5_wire 71 = .ok (.ireturn, 1) := by decide +kernel
theorem dX5_wire_72 : decode cX5_wire 72 = .ok (.aload_n 0, 1) := by decide +kernel
theorem dX5_wire_73 : decode cX5_wire 73 = .ok (.iload_n 1, 1) := by decide +kernel
theorem dX5_wire_74 : decode cX5_wire 74 = .ok (.invokevirtual 88, 3) := by decide +kernel
theorem dX5_wire_77 : decode cX5_wire 77 = .ok (.ifCond .ge 10, 3) := by decide +kernel
theorem dX5_wire_80 : decode cX5_wire 80 = .ok (.iload 5, 2) := by decide +kernel
theorem dX5_wire_82 : decode cX5_wire 82 = .ok (.iload 4, 2) := by decide +kernel
theorem dX5_wire_84 : decode cX5_wire 84 = .ok (.if_icmp .le 6, 3) := by decide +kernel
theorem dX5_wire_87 : decode cX5_wire 87 = .ok (.bipush (-5), 2) := by decide +kernel
theorem dX5_wire_89 : decode cX5_wire 89 = .ok (.ireturn, 1) := by decide +kernel
theorem dX5_wire_90 : decode cX5_wire 90 = .ok (.aload_n 0, 1) := by decide +kernel
theorem dX5_wire_91 : decode cX5_wire 91 = .ok (.invokevirtual 84, 3) := by decide +kernel
theorem dX5_wire_94 : decode cX5_wire 94 = .ok (.aload_n 0, 1) := by decide +kernel
theorem dX5_wire_95 : decode cX5_wire 95 = .ok (.getfield 7, 3) := by decide +kernel
theorem dX5_wire_98 : decode cX5_wire 98 = .ok (.iconst 3, 1) := by decide +kernel
theorem dX5_wire_99 : decode cX5_wire 99 = .ok (.iaload, 1) := by decide +kernel
theorem dX5_wire_100 : decode cX5_wire 100 = .ok (.istore 6, 2) := by decide +kernel
theorem dX5_wire_102 : decode cX5_wire 102 = .ok (.aload_n 0, 1) := by decide +kernel
theorem dX5_wire_103 : decode cX5_wire 103 = .ok (.getfield 7, 3) := by decide +kernel
theorem dX5_wire_106 : decode cX5_wire 106 = .ok (.iconst 3, 1) := by decide +kernel
theorem dX5_wire_107 : decode cX5_wire 107 = .ok (.dup2, 1) := by decide +kernel
theorem dX5_wire_108 : decode cX5_wire 108 = .ok (.iaload, 1) := by decide +kernel
theorem dX5_wire_109 : decode cX5_wire 109 = .ok (.iconst 1, 1) := by decide +kernel
theorem dX5_wire_110 : decode cX5_wire 110 = .ok (.iadd, 1) := by decide +kernel
theorem dX5_wire_111 : decode cX5_wire 111 = .ok (.iastore, 1) := by decide +kernel
theorem dX5_wire_112 : decode cX5_wire 112 = .ok (.aload_n 0, 1) := by decide +kernel
theorem dX5_wire_113 : decode cX5_wire 113 = .ok (.iload 6, 2) := by decide +kernel
theorem dX5_wire_115 : decode cX5_wire 115 = .ok (.iconst 0, 1) := by decide +kernel
theorem dX5_wire_116 : decode cX5_wire 116 = .ok (.iload_n 1, 1) := by decide +kernel
theorem dX5_wire_117 : decode cX5_wire 117 = .ok (.invokevirtual 73, 3) := by decide +kernel
theorem dX5_wire_120 : decode cX5_wire 120 = .ok (.aload_n 0, 1) := by decide +kernel
theorem dX5_wire_121 : decode cX5_wire 121 = .ok (.iload 6, 2) := by decide +kernel
theorem dX5_wire_123 : decode cX5_wire 123 = .ok (.iconst 1, 1) := by decide +kernel
theorem dX5_wire_124 : decode cX5_wire 124 = .ok (.iload_n 2, 1) := by decide +kernel
theorem dX5_wire_125 : decode cX5_wire 125 = .ok (.invokevirtual 73, 3) := by decide +kernel
theorem dX5_wire_128 : decode cX5_wire 128 = .ok (.aload_n 0, 1) := by decide +kernel
theorem dX5_wire_129 : decode cX5_wire 129 = .ok (.iload 6, 2) := by decide +kernel
theorem dX5_wire_131 : decode cX5_wire 131 = .ok (.iconst 2, 1) := by decide +kernel
theorem dX5_wire_132 : decode cX5_wire 132 = .ok (.iload_n 3, 1) := by decide +kernel
theorem dX5_wire_133 : decode cX5_wire 133 = .ok (.invokevirtual 73, 3) := by decide +kernel
theorem dX5_wire_136 : decode cX5_wire 136 = .ok (.aload_n 0, 1) := by decide +kernel
theorem dX5_wire_137 : decode cX5_wire 137 = .ok (.iload 6, 2) := by decide +kernel
theorem dX5_wire_139 : decode cX5_wire 139 = .ok (.iconst 3, 1) := by decide +kernel
theorem dX5_wire_140 : decode cX5_wire 140 = .ok (.iload 4, 2) := by decide +kernel
theorem dX5_wire_142 : decode cX5_wire 142 = .ok (.invokevirtual 73, 3) := by decide +kernel
theorem dX5_wire_145 : decode cX5_wire 145 = .ok (.aload_n 0, 1) := by decide +kernel
theorem dX5_wire_146 : decode cX5_wire 146 = .ok (.iload 6, 2) := by decide +kernel
theorem dX5_wire_148 : decode cX5_wire 148 = .ok (.iconst 4, 1) := by decide +kernel
theorem dX5_wire_149 : decode cX5_wire 149 = .ok (.iload 5, 2) := by decide +kernel
theorem dX5_wire_151 : decode cX5_wire 151 = .ok (.invokevirtual 73, 3) := by decide +kernel
theorem dX5_wire_154 : decode cX5_wire 154 = .ok (.aload_n 0, 1) := by decide +kernel
theorem dX5_wire_155 : decode cX5_wire 155 = .ok (.iload 6, 2) := by decide +kernel
theorem dX5_wire_157 : decode cX5_wire 157 = .ok (.bipush 6, 2) := by decide +kernel
theorem dX5_wire_159 : decode cX5_wire 159 = .ok (.bipush (-6), 2) := by decide +kernel
theorem dX5_wire_161 : decode cX5_wire 161 = .ok (.invokevirtual 73, 3) := by decide +kernel
theorem dX5_wire_164 : decode cX5_wire 164 = .ok (.aload_n 0, 1) := by decide +kernel
theorem dX5_wire_165 : decode cX5_wire 165 = .ok (.iload 6, 2) := by decide +kernel
theorem dX5_wire_167 : decode cX5_wire 167 = .ok (.bipush 7, 2) := by decide +kernel
theorem dX5_wire_169 : decode cX5_wire 169 = .ok (.bipush (-6), 2) := by decide +kernel
theorem dX5_wire_171 : decode cX5_wire 171 = .ok (.invokevirtual 73, 3) := by decide +kernel
theorem dX5_wire_174 : decode cX5_wire 174 = .ok (.aload_n 0, 1) := by decide +kernel
theorem dX5_wire_175 : decode cX5_wire 175 = .ok (.iload 6, 2) := by decide +kernel
theorem dX5_wire_177 : decode cX5_wire 177 = .ok (.bipush 8, 2) := by decide +kernel
theorem dX5_wire_179 : decode cX5_wire 179 = .ok (.bipush (-6), 2) := by decide +kernel
theorem dX5_wire_181 : decode cX5_wire 181 = .ok (.invokevirtual 73, 3) := by decide +kernel
theorem dX5_wire_184 : decode cX5_wire 184 = .ok (.aload_n 0, 1) := by decide +kernel
theorem dX5_wire_185 : decode cX5_wire 185 = .ok (.iload 6, 2) := by decide +kernel
theorem dX5_wire_187 : decode cX5_wire 187 = .ok (.bipush 9, 2) := by decide +kernel
theorem dX5_wire_189 : decode cX5_wire 189 = .ok (.bipush (-6), 2) := by decide +kernel
theorem dX5_wire_191 : decode cX5_wire 191 = .ok (.invokevirtual 73, 3) := by decide +kernel
theorem dX5_wire_194 : decode cX5_wire 194 = .ok (.aload_n 0, 1) := by decide +kernel
theorem dX5_wire_195 : decode cX5_wire 195 = .ok (.invokevirtual 91, 3) := by decide +kernel
theorem dX5_wire_198 : decode cX5_wire 198 = .ok (.pop, 1) := by decide +kernel
theorem dX5_wire_199 : decode cX5_wire 199 = .ok (.iload 6, 2) := by decide +kernel
theorem dX5_wire_201 : decode cX5_wire 201 = .ok (.ireturn, 1) := by decide +kernel
theorem dX5_load_0 : decode cX5_load 0 = .ok (.iload_n 1, 1) := by decide +kernel
theorem dX5_load_1 : decode cX5_load 1 = .ok (.iconst 0, 1) := by decide +kernel
theorem dX5_load_2 : decode cX5_load 2 = .ok (.bipush 19, 2) := by decide +kernel
theorem dX5_load_4 : decode cX5_load 4 = .ok (.invokestatic 43, 3) := by decide +kernel
theorem dX5_load_7 : decode cX5_load 7 = .ok (.ifCond .ne 5, 3) := by decide +kernel
theorem dX5_load_10 : decode cX5_load 10 = .ok (.iconst (-1), 1) := by decide +kernel
theorem dX5_load_11 : decode cX5_load 11 = .ok (.ireturn, 1) := by decide +kernel
theorem dX5_load_12 : decode cX5_load 12 = .ok (.iload_n 2, 1) := by decide +kernel
theorem dX5_load_13 : decode cX5_load 13 = .ok (.iconst 0, 1) := by decide +kernel
theorem dX5_load_14 : decode cX5_load 14 = .ok (.sipush 1000, 3) := by decide +kernel
theorem dX5_load_17 : decode cX5_load 17 = .ok (.invokestatic 43, 3) := by decide +kernel
theorem dX5_load_20 : decode cX5_load 20 = .ok (.ifCond .ne 6, 3) := by decide +kernel
theorem dX5_load_23 : decode cX5_load 23 = .ok (.bipush (-2), 2) := by decide +kernel
theorem dX5_load_25 : decode cX5_load 25 = .ok (.ireturn, 1) := by decide +kernel
theorem dX5_load_26 : decode cX5_load 26 = .ok (.aload_n 0, 1) := by decide +kernel
theorem dX5_load_27 : decode cX5_load 27 = .ok (.invokevirtual 84, 3) := by decide +kernel
theorem dX5_load_30 : decode cX5_load 30 = .ok (.aload_n 0, 1) := by decide +kernel
theorem dX5_load_31 : decode cX5_load 31 = .ok (.getfield 7, 3) := by decide +kernel
theorem dX5_load_34 : decode cX5_load 34 = .ok (.bipush 10, 2) := by decide +kernel
theorem dX5_load_36 : decode cX5_load 36 = .ok (.iload_n 1, 1) := by decide +kernel
theorem dX5_load_37 : decode cX5_load 37 = .ok (.iadd, 1) := by decide +kernel
theorem dX5_load_38 : decode cX5_load 38 = .ok (.iaload, 1) := by decide +kernel
theorem dX5_load_39 : decode cX5_load 39 = .ok (.istore_n 3, 1) := by decide +kernel
theorem dX5_load_40 : decode cX5_load 40 = .ok (.aload_n 0, 1) := by decide +kernel
theorem dX5_load_41 : decode cX5_load 41 = .ok (.getfield 7, 3) := by decide +kernel
theorem dX5_load_44 : decode cX5_load 44 = .ok (.bipush 10, 2) := by decide +kernel
theorem dX5_load_46 : decode cX5_load 46 = .ok (.iload_n 1, 1) := by decide +kernel
theorem dX5_load_47 : decode cX5_load 47 = .ok (.iadd, 1) := by decide +kernel
theorem dX5_load_48 : decode cX5_load 48 = .ok (.iload_n 2, 1) := by decide +kernel
theorem dX5_load_49 : decode cX5_load 49 = .ok (.iastore, 1) := by decide +kernel
theorem dX5_load_50 : decode cX5_load 50 = .ok (.aload_n 0, 1) := by decide +kernel
theorem dX5_load_51 : decode cX5_load 51 = .ok (.invokevirtual 91, 3) := by decide +kernel
theorem dX5_load_54 : decode cX5_load 54 = .ok (.pop, 1) := by decide +kernel
theorem dX5_load_55 : decode cX5_load 55 = .ok (.iload_n 3, 1) := by decide +kernel
theorem dX5_load_56 : decode cX5_load 56 = .ok (.ireturn, 1) := by decide +kernel
theorem dX5_loosened_0 : decode cX5_loosened 0 = .ok (.iload_n 1, 1) := by decide +kernel
theorem dX5_loosened_1 : decode cX5_loosened 1 = .ok (.ifCond .ge 7, 3) := by decide +kernel
theorem dX5_loosened_4 : decode cX5_loosened 4 = .ok (.iload_n 1, 1) := by decide +kernel
theorem dX5_loosened_5 : decode cX5_loosened 5 = .ok (.goto 21, 3) := by decide +kernel
theorem dX5_loosened_8 : decode cX5_loosened 8 = .ok (.iload_n 1, 1) := by decide +kernel
theorem dX5_loosened_9 : decode cX5_loosened 9 = .ok (.iload_n 1, 1) := by decide +kernel
theorem dX5_loosened_10 : decode cX5_loosened 10 = .ok (.aload_n 0, 1) := by decide +kernel
theorem dX5_loosened_11 : decode cX5_loosened 11 = .ok (.getfield 7, 3) := by decide +kernel
theorem dX5_loosened_14 : decode cX5_loosened 14 = .ok (.iconst 0, 1) := by decide +kernel
theorem dX5_loosened_15 : decode cX5_loosened 15 = .ok (.iaload, 1) := by decide +kernel
theorem dX5_loosened_16 : decode cX5_loosened 16 = .ok (.imul, 1) := by decide +kernel
theorem dX5_loosened_17 : decode cX5_loosened 17 = .ok (.sipush 999, 3) := by decide +kernel
theorem dX5_loosened_20 : decode cX5_loosened 20 = .ok (.iadd, 1) := by decide +kernel
theorem dX5_loosened_21 : decode cX5_loosened 21 = .ok (.sipush 1000, 3) := by decide +kernel
theorem dX5_loosened_24 : decode cX5_loosened 24 = .ok (.idiv, 1) := by decide +kernel
theorem dX5_loosened_25 : decode cX5_loosened 25 = .ok (.isub, 1) := by decide +kernel
theorem dX5_loosened_26 : decode cX5_loosened 26 = .ok (.ireturn, 1) := by decide +kernel
theorem dX5_pass_0 : decode cX5_pass 0 = .ok (.iconst 0, 1) := by decide +kernel
theorem dX5_pass_1 : decode cX5_pass 1 = .ok (.istore_n 1, 1) := by decide +kernel
theorem dX5_pass_2 : decode cX5_pass 2 = .ok (.iload_n 1, 1) := by decide +kernel
theorem dX5_pass_3 : decode cX5_pass 3 = .ok (.aload_n 0, 1) := by decide +kernel
theorem dX5_pass_4 : decode cX5_pass 4 = .ok (.getfield 7, 3) := by decide +kernel
theorem dX5_pass_7 : decode cX5_pass 7 = .ok (.iconst 3, 1) := by decide +kernel
theorem dX5_pass_8 : decode cX5_pass 8 = .ok (.iaload, 1) := by decide +kernel
theorem dX5_pass_9 : decode cX5_pass 9 = .ok (.if_icmp .ge 61, 3) := by decide +kernel
theorem dX5_pass_12 : decode cX5_pass 12 = .ok (.aload_n 0, 1) := by decide +kernel
theorem dX5_pass_13 : decode cX5_pass 13 = .ok (.iload_n 1, 1) := by decide +kernel
theorem dX5_pass_14 : decode cX5_pass 14 = .ok (.iconst 4, 1) := by decide +kernel
theorem dX5_pass_15 : decode cX5_pass 15 = .ok (.aload_n 0, 1) := by decide +kernel
theorem dX5_pass_16 : decode cX5_pass 16 = .ok (.aload_n 0, 1) := by decide +kernel
theorem dX5_pass_17 : decode cX5_pass 17 = .ok (.iload_n 1, 1) := by decide +kernel
theorem dX5_pass_18 : decode cX5_pass 18 = .ok (.iconst 4, 1) := by decide +kernel
theorem dX5_pass_19 : decode cX5_pass 19 = .ok (.invokevirtual 47, 3) := by decide +kernel
theorem dX5_pass_22 : decode cX5_pass 22 = .ok (.invokevirtual 94, 3) := by decide +kernel
theorem dX5_pass_25 : decode cX5_pass 25 = .ok (.invokevirtual 73, 3) := by decide +kernel
theorem dX5_pass_28 : decode cX5_pass 28 = .ok (.aload_n 0, 1) := by decide +kernel
theorem dX5_pass_29 : decode cX5_pass 29 = .ok (.iload_n 1, 1) := by decide +kernel
theorem dX5_pass_30 : decode cX5_pass 30 = .ok (.bipush 8, 2) := by decide +kernel
theorem dX5_pass_32 : decode cX5_pass 32 = .ok (.aload_n 0, 1) := by decide +kernel
theorem dX5_pass_33 : decode cX5_pass 33 = .ok (.aload_n 0, 1) := by decide +kernel
theorem dX5_pass_34 : decode cX5_pass 34 = .ok (.iload_n 1, 1) := by decide +kernel
theorem dX5_pass_35 : decode cX5_pass 35 = .ok (.bipush 8, 2) := by decide +kernel
theorem dX5_pass_37 : decode cX5_pass 37 = .ok (.invokevirtual 47, 3) := by decide +kernel
theorem dX5_pass_40 : decode cX5_pass 40 = .ok (.invokevirtual 94, 3) := by decide +kernel
theorem dX5_pass_43 : decode cX5_pass 43 = .ok (.invokevirtual 73, 3) := by decide +kernel
theorem dX5_pass_46 : decode cX5_pass 46 = .ok (.aload_n 0, 1) := by decide +kernel
theorem dX5_pass_47 : decode cX5_pass 47 = .ok (.iload_n 1, 1) := by decide +kernel
theorem dX5_pass_48 : decode cX5_pass 48 = .ok (.bipush 9, 2) := by decide +kernel
theorem dX5_pass_50 : decode cX5_pass 50 = .ok (.aload_n 0, 1) := by decide +kernel
theorem dX5_pass_51 : decode cX5_pass 51 = .ok (.aload_n 0, 1) := by decide +kernel
theorem dX5_pass_52 : decode cX5_pass 52 = .ok (.iload_n 1, 1) := by decide +kernel
theorem dX5_pass_53 : decode cX5_pass 53 = .ok (.bipush 9, 2) := by decide +kernel
theorem dX5_pass_55 : decode cX5_pass 55 = .ok (.invokevirtual 47, 3) := by decide +kernel
theorem dX5_pass_58 : decode cX5_pass 58 = .ok (.invokevirtual 94, 3) := by decide +kernel
theorem dX5_pass_61 : decode cX5_pass 61 = .ok (.invokevirtual 73, 3) := by decide +kernel
theorem dX5_pass_64 : decode cX5_pass 64 = .ok (.iinc 1 1, 3) := by decide +kernel
theorem dX5_pass_67 : decode cX5_pass 67 = .ok (.goto (-65), 3) := by decide +kernel
theorem dX5_pass_70 : decode cX5_pass 70 = .ok (.aload_n 0, 1) := by decide +kernel
theorem dX5_pass_71 : decode cX5_pass 71 = .ok (.invokevirtual 91, 3) := by decide +kernel
theorem dX5_pass_74 : decode cX5_pass 74 = .ok (.istore_n 1, 1) := by decide +kernel
theorem dX5_pass_75 : decode cX5_pass 75 = .ok (.aload_n 0, 1) := by decide +kernel
theorem dX5_pass_76 : decode cX5_pass 76 = .ok (.getfield 7, 3) := by decide +kernel
theorem dX5_pass_79 : decode cX5_pass 79 = .ok (.iconst 2, 1) := by decide +kernel
theorem dX5_pass_80 : decode cX5_pass 80 = .ok (.dup2, 1) := by decide +kernel
theorem dX5_pass_81 : decode cX5_pass 81 = .ok (.iaload, 1) := by decide +kernel
theorem dX5_pass_82 : decode cX5_pass 82 = .ok (.iconst 1, 1) := by decide +kernel
theorem dX5_pass_83 : decode cX5_pass 83 = .ok (.iadd, 1) := by decide +kernel
theorem dX5_pass_84 : decode cX5_pass 84 = .ok (.iastore, 1) := by decide +kernel
theorem dX5_pass_85 : decode cX5_pass 85 = .ok (.iload_n 1, 1) := by decide +kernel
theorem dX5_pass_86 : decode cX5_pass 86 = .ok (.ireturn, 1) := by decide +kernel
theorem dX5_days_0 : decode cX5_days 0 = .ok (.iload_n 1, 1) := by decide +kernel
theorem dX5_days_1 : decode cX5_days 1 = .ok (.iconst 1, 1) := by decide +kernel
theorem dX5_days_2 : decode cX5_days 2 = .ok (.bipush 100, 2) := by decide +kernel
theorem dX5_days_4 : decode cX5_days 4 = .ok (.invokestatic 43, 3) := by decide +kernel
theorem dX5_days_7 : decode cX5_days 7 = .ok (.ifCond .ne 6, 3) := by decide +kernel
theorem dX5_days_10 : decode cX5_days 10 = .ok (.bipush (-2), 2) := by decide +kernel
theorem dX5_days_12 : decode cX5_days 12 = .ok (.ireturn, 1) := by decide +kernel
theorem dX5_days_13 : decode cX5_days 13 = .ok (.aload_n 0, 1) := by decide +kernel
theorem dX5_days_14 : decode cX5_days 14 = .ok (.invokevirtual 84, 3) := by decide +kernel
theorem dX5_days_17 : decode cX5_days 17 = .ok (.iconst 0, 1) := by decide +kernel
theorem dX5_days_18 : decode cX5_days 18 = .ok (.istore_n 2, 1) := by decide +kernel
theorem dX5_days_19 : decode cX5_days 19 = .ok (.iconst 0, 1) := by decide +kernel
theorem dX5_days_20 : decode cX5_days 20 = .ok (.istore_n 3, 1) := by decide +kernel
theorem dX5_days_21 : decode cX5_days 21 = .ok (.iload_n 3, 1) := by decide +kernel
theorem dX5_days_22 : decode cX5_days 22 = .ok (.iload_n 1, 1) := by decide +kernel
theorem dX5_days_23 : decode cX5_days 23 = .ok (.if_icmp .ge 16, 3) := by decide +kernel
theorem dX5_days_26 : decode cX5_days 26 = .ok (.iload_n 2, 1) := by decide +kernel
theorem dX5_days_27 : decode cX5_days 27 = .ok (.aload_n 0, 1) := by decide +kernel
theorem dX5_days_28 : decode cX5_days 28 = .ok (.invokevirtual 97, 3) := by decide +kernel
theorem dX5_days_31 : decode cX5_days 31 = .ok (.iadd, 1) := by decide +kernel
theorem dX5_days_32 : decode cX5_days 32 = .ok (.istore_n 2, 1) := by decide +kernel
theorem dX5_days_33 : decode cX5_days 33 = .ok (.iinc 3 1, 3) := by decide +kernel
theorem dX5_days_36 : decode cX5_days 36 = .ok (.goto (-15), 3) := by decide +kernel
theorem dX5_days_39 : decode cX5_days 39 = .ok (.iload_n 2, 1) := by decide +kernel
theorem dX5_days_40 : decode cX5_days 40 = .ok (.ireturn, 1) := by decide +kernel
theorem dX5_walk_0 : decode cX5_walk 0 = .ok (.iload_n 1, 1) := by decide +kernel
theorem dX5_walk_1 : decode cX5_walk 1 = .ok (.iconst 0, 1) := by decide +kernel
theorem dX5_walk_2 : decode cX5_walk 2 = .ok (.bipush 19, 2) := by decide +kernel
theorem dX5_walk_4 : decode cX5_walk 4 = .ok (.invokestatic 43, 3) := by decide +kernel
theorem dX5_walk_7 : decode cX5_walk 7 = .ok (.ifCond .ne 5, 3) := by decide +kernel
theorem dX5_walk_10 : decode cX5_walk 10 = .ok (.iconst (-1), 1) := by decide +kernel
theorem dX5_walk_11 : decode cX5_walk 11 = .ok (.ireturn, 1) := by decide +kernel
theorem dX5_walk_12 : decode cX5_walk 12 = .ok (.aload_n 0, 1) := by decide +kernel
theorem dX5_walk_13 : decode cX5_walk 13 = .ok (.invokevirtual 84, 3) := by decide +kernel
theorem dX5_walk_16 : decode cX5_walk 16 = .ok (.iload_n 1, 1) := by decide +kernel
theorem dX5_walk_17 : decode cX5_walk 17 = .ok (.aload_n 0, 1) := by decide +kernel
theorem dX5_walk_18 : decode cX5_walk 18 = .ok (.getfield 7, 3) := by decide +kernel
theorem dX5_walk_21 : decode cX5_walk 21 = .ok (.iconst 4, 1) := by decide +kernel
theorem dX5_walk_22 : decode cX5_walk 22 = .ok (.iaload, 1) := by decide +kernel
theorem dX5_walk_23 : decode cX5_walk 23 = .ok (.if_icmp .ge 14, 3) := by decide +kernel
theorem dX5_walk_26 : decode cX5_walk 26 = .ok (.aload_n 0, 1) := by decide +kernel
theorem dX5_walk_27 : decode cX5_walk 27 = .ok (.getfield 7, 3) := by decide +kernel
theorem dX5_walk_30 : decode cX5_walk 30 = .ok (.iconst 4, 1) := by decide +kernel
theorem dX5_walk_31 : decode cX5_walk 31 = .ok (.iaload, 1) := by decide +kernel
theorem dX5_walk_32 : decode cX5_walk 32 = .ok (.iload_n 1, 1) := by decide +kernel
theorem dX5_walk_33 : decode cX5_walk 33 = .ok (.isub, 1) := by decide +kernel
theorem dX5_walk_34 : decode cX5_walk 34 = .ok (.goto 11, 3) := by decide +kernel
theorem dX5_walk_37 : decode cX5_walk 37 = .ok (.iload_n 1, 1) := by decide +kernel
theorem dX5_walk_38 : decode cX5_walk 38 = .ok (.aload_n 0, 1) := by decide +kernel
theorem dX5_walk_39 : decode cX5_walk 39 = .ok (.getfield 7, 3) := by decide +kernel
theorem dX5_walk_42 : decode cX5_walk 42 = .ok (.iconst 4, 1) := by decide +kernel
theorem dX5_walk_43 : decode cX5_walk 43 = .ok (.iaload, 1) := by decide +kernel
theorem dX5_walk_44 : decode cX5_walk 44 = .ok (.isub, 1) := by decide +kernel
theorem dX5_walk_45 : decode cX5_walk 45 = .ok (.istore_n 2, 1) := by decide +kernel
theorem dX5_walk_46 : decode cX5_walk 46 = .ok (.aload_n 0, 1) := by decide +kernel
theorem dX5_walk_47 : decode cX5_walk 47 = .ok (.getfield 7, 3) := by decide +kernel
theorem dX5_walk_50 : decode cX5_walk 50 = .ok (.iconst 4, 1) := by decide +kernel
theorem dX5_walk_51 : decode cX5_walk 51 = .ok (.iload_n 1, 1) := by decide +kernel
theorem dX5_walk_52 : decode cX5_walk 52 = .ok (.iastore, 1) := by decide +kernel
theorem dX5_walk_53 : decode cX5_walk 53 = .ok (.aload_n 0, 1) := by decide +kernel
theorem dX5_walk_54 : decode cX5_walk 54 = .ok (.getfield 7, 3) := by decide +kernel
theorem dX5_walk_57 : decode cX5_walk 57 = .ok (.iconst 5, 1) := by decide +kernel
theorem dX5_walk_58 : decode cX5_walk 58 = .ok (.dup2, 1) := by decide +kernel
theorem dX5_walk_59 : decode cX5_walk 59 = .ok (.iaload, 1) := by decide +kernel
theorem dX5_walk_60 : decode cX5_walk 60 = .ok (.iload_n 2, 1) := by decide +kernel
theorem dX5_walk_61 : decode cX5_walk 61 = .ok (.iadd, 1) := by decide +kernel
theorem dX5_walk_62 : decode cX5_walk 62 = .ok (.iastore, 1) := by decide +kernel
theorem dX5_walk_63 : decode cX5_walk 63 = .ok (.iload_n 2, 1) := by decide +kernel
theorem dX5_walk_64 : decode cX5_walk 64 = .ok (.ireturn, 1) := by decide +kernel
theorem dX5_know_0 : decode cX5_know 0 = .ok (.aload_n 0, 1) := by decide +kernel
theorem dX5_know_1 : decode cX5_know 1 = .ok (.iload_n 1, 1) := by decide +kernel
theorem dX5_know_2 : decode cX5_know 2 = .ok (.bipush 7, 2) := by decide +kernel
theorem dX5_know_4 : decode cX5_know 4 = .ok (.aload_n 0, 1) := by decide +kernel
theorem dX5_know_5 : decode cX5_know 5 = .ok (.getfield 7, 3) := by decide +kernel
theorem dX5_know_8 : decode cX5_know 8 = .ok (.iconst 2, 1) := by decide +kernel
theorem dX5_know_9 : decode cX5_know 9 = .ok (.iaload, 1) := by decide +kernel
theorem dX5_know_10 : decode cX5_know 10 = .ok (.invokevirtual 73, 3) := by decide +kernel
theorem dX5_know_13 : decode cX5_know 13 = .ok (.aload_n 0, 1) := by decide +kernel
theorem dX5_know_14 : decode cX5_know 14 = .ok (.iload_n 1, 1) := by decide +kernel
theorem dX5_know_15 : decode cX5_know 15 = .ok (.bipush 8, 2) := by decide +kernel
theorem dX5_know_17 : decode cX5_know 17 = .ok (.iload_n 2, 1) := by decide +kernel
theorem dX5_know_18 : decode cX5_know 18 = .ok (.invokevirtual 73, 3) := by decide +kernel
theorem dX5_know_21 : decode cX5_know 21 = .ok (.aload_n 0, 1) := by decide +kernel
theorem dX5_know_22 : decode cX5_know 22 = .ok (.iload_n 1, 1) := by decide +kernel
theorem dX5_know_23 : decode cX5_know 23 = .ok (.bipush 9, 2) := by decide +kernel
theorem dX5_know_25 : decode cX5_know 25 = .ok (.iload_n 3, 1) := by decide +kernel
theorem dX5_know_26 : decode cX5_know 26 = .ok (.invokevirtual 73, 3) := by decide +kernel
theorem dX5_know_29 : decode cX5_know 29 = .ok (.return_, 1) := by decide +kernel
theorem dX5_hear_0 : decode cX5_hear 0 = .ok (.aload_n 0, 1) := by decide +kernel
theorem dX5_hear_1 : decode cX5_hear 1 = .ok (.aload_n 0, 1) := by decide +kernel
theorem dX5_hear_2 : decode cX5_hear 2 = .ok (.getfield 7, 3) := by decide +kernel
theorem dX5_hear_5 : decode cX5_hear 5 = .ok (.iconst 4, 1) := by decide +kernel
theorem dX5_hear_6 : decode cX5_hear 6 = .ok (.iaload, 1) := by decide +kernel
theorem dX5_hear_7 : decode cX5_hear 7 = .ok (.invokevirtual 88, 3) := by decide +kernel
theorem dX5_hear_10 : decode cX5_hear 10 = .ok (.istore_n 1, 1) := by decide +kernel
theorem dX5_hear_11 : decode cX5_hear 11 = .ok (.iload_n 1, 1) := by decide +kernel
theorem dX5_hear_12 : decode cX5_hear 12 = .ok (.ifCond .ge 6, 3) := by decide +kernel
theorem dX5_hear_15 : decode cX5_hear 15 = .ok (.bipush (-5), 2) := by decide +kernel
theorem dX5_hear_17 : decode cX5_hear 17 = .ok (.ireturn, 1) := by decide +kernel
theorem dX5_hear_18 : decode cX5_hear 18 = .ok (.aload_n 0, 1) := by decide +kernel
theorem dX5_hear_19 : decode cX5_hear 19 = .ok (.invokevirtual 84, 3) := by decide +kernel
theorem dX5_hear_22 : decode cX5_hear 22 = .ok (.aload_n 0, 1) := by decide +kernel
theorem dX5_hear_23 : decode cX5_hear 23 = .ok (.iload_n 1, 1) := by decide +kernel
theorem dX5_hear_24 : decode cX5_hear 24 = .ok (.invokevirtual 69, 3) := by decide +kernel
theorem dX5_hear_27 : decode cX5_hear 27 = .ok (.ifCond .ne 21, 3) := by decide +kernel
theorem dX5_hear_30 : decode cX5_hear 30 = .ok (.aload_n 0, 1) := by decide +kernel
theorem dX5_hear_31 : decode cX5_hear 31 = .ok (.iload_n 1, 1) := by decide +kernel
theorem dX5_hear_32 : decode cX5_hear 32 = .ok (.bipush 10, 2) := by decide +kernel
theorem dX5_hear_34 : decode cX5_hear 34 = .ok (.iconst 1, 1) := by decide +kernel
theorem dX5_hear_35 : decode cX5_hear 35 = .ok (.invokevirtual 73, 3) := by decide +kernel
theorem dX5_hear_38 : decode cX5_hear 38 = .ok (.aload_n 0, 1) := by decide +kernel
theorem dX5_hear_39 : decode cX5_hear 39 = .ok (.iload_n 1, 1) := by decide +kernel
theorem dX5_hear_40 : decode cX5_hear 40 = .ok (.iconst 0, 1) := by decide +kernel
theorem dX5_hear_41 : decode cX5_hear 41 = .ok (.iconst 0, 1) := by decide +kernel
theorem dX5_hear_42 : decode cX5_hear 42 = .ok (.invokevirtual 100, 3) := by decide +kernel
theorem dX5_hear_45 : decode cX5_hear 45 = .ok (.bipush (-6), 2) := by decide +kernel
theorem dX5_hear_47 : decode cX5_hear 47 = .ok (.ireturn, 1) := by decide +kernel
theorem dX5_hear_48 : decode cX5_hear 48 = .ok (.aload_n 0, 1) := by decide +kernel
theorem dX5_hear_49 : decode cX5_hear 49 = .ok (.iload_n 1, 1) := by decide +kernel
theorem dX5_hear_50 : decode cX5_hear 50 = .ok (.aload_n 0, 1) := by decide +kernel
theorem dX5_hear_51 : decode cX5_hear 51 = .ok (.iload_n 1, 1) := by decide +kernel
theorem dX5_hear_52 : decode cX5_hear 52 = .ok (.iconst 4, 1) := by decide +kernel
theorem dX5_hear_53 : decode cX5_hear 53 = .ok (.invokevirtual 47, 3) := by decide +kernel
theorem dX5_hear_56 : decode cX5_hear 56 = .ok (.invokevirtual 103, 3) := by decide +kernel
theorem dX5_hear_59 : decode cX5_hear 59 = .ok (.istore_n 2, 1) := by decide +kernel
theorem dX5_hear_60 : decode cX5_hear 60 = .ok (.aload_n 0, 1) := by decide +kernel
theorem dX5_hear_61 : decode cX5_hear 61 = .ok (.iload_n 1, 1) := by decide +kernel
theorem dX5_hear_62 : decode cX5_hear 62 = .ok (.iload_n 2, 1) := by decide +kernel
theorem dX5_hear_63 : decode cX5_hear 63 = .ok (.iconst 1, 1) := by decide +kernel
theorem dX5_hear_64 : decode cX5_hear 64 = .ok (.iadd, 1) := by decide +kernel
theorem dX5_hear_65 : decode cX5_hear 65 = .ok (.invokevirtual 106, 3) := by decide +kernel
theorem dX5_hear_68 : decode cX5_hear 68 = .ok (.lconst 1, 1) := by decide +kernel
theorem dX5_hear_69 : decode cX5_hear 69 = .ok (.lsub, 1) := by decide +kernel
theorem dX5_hear_70 : decode cX5_hear 70 = .ok (.lstore_n 3, 1) := by decide +kernel
theorem dX5_hear_71 : decode cX5_hear 71 = .ok (.aload_n 0, 1) := by decide +kernel
theorem dX5_hear_72 : decode cX5_hear 72 = .ok (.iload_n 1, 1) := by decide +kernel
theorem dX5_hear_73 : decode cX5_hear 73 = .ok (.aload_n 0, 1) := by decide +kernel
theorem dX5_hear_74 : decode cX5_hear 74 = .ok (.iload_n 1, 1) := by decide +kernel
theorem dX5_hear_75 : decode cX5_hear 75 = .ok (.iload_n 2, 1) := by decide +kernel
theorem dX5_hear_76 : decode cX5_hear 76 = .ok (.invokevirtual 106, 3) := by decide +kernel
theorem dX5_hear_79 : decode cX5_hear 79 = .ok (.l2i, 1) := by decide +kernel
theorem dX5_hear_80 : decode cX5_hear 80 = .ok (.lload_n 3, 1) := by decide +kernel
theorem dX5_hear_81 : decode cX5_hear 81 = .ok (.ldc2_w 110, 3) := by decide +kernel
theorem dX5_hear_84 : decode cX5_hear 84 = .ok (.lcmp, 1) := by decide +kernel
theorem dX5_hear_85 : decode cX5_hear 85 = .ok (.ifCond .le 8, 3) := by decide +kernel
theorem dX5_hear_88 : decode cX5_hear 88 = .ok (.ldc 87, 2) := by decide +kernel
theorem dX5_hear_90 : decode cX5_hear 90 = .ok (.goto 5, 3) := by decide +kernel
theorem dX5_hear_93 : decode cX5_hear 93 = .ok (.lload_n 3, 1) := by decide +kernel
theorem dX5_hear_94 : decode cX5_hear 94 = .ok (.l2i, 1) := by decide +kernel
theorem dX5_hear_95 : decode cX5_hear 95 = .ok (.invokevirtual 100, 3) := by decide +kernel
theorem dX5_hear_98 : decode cX5_hear 98 = .ok (.iload_n 2, 1) := by decide +kernel
theorem dX5_hear_99 : decode cX5_hear 99 = .ok (.ireturn, 1) := by decide +kernel
theorem dX5_tighten_0 : decode cX5_tighten 0 = .ok (.iload_n 1, 1) := by decide +kernel
theorem dX5_tighten_1 : decode cX5_tighten 1 = .ok (.iconst 0, 1) := by decide +kernel
theorem dX5_tighten_2 : decode cX5_tighten 2 = .ok (.ldc 87, 2) := by decide +kernel
theorem dX5_tighten_4 : decode cX5_tighten 4 = .ok (.invokestatic 43, 3) := by decide +kernel
theorem dX5_tighten_7 : decode cX5_tighten 7 = .ok (.ifCond .ne 6, 3) := by decide +kernel
theorem dX5_tighten_10 : decode cX5_tighten 10 = .ok (.bipush (-2), 2) := by decide +kernel
theorem dX5_tighten_12 : decode cX5_tighten 12 = .ok (.ireturn, 1) := by decide +kernel
theorem dX5_tighten_13 : decode cX5_tighten 13 = .ok (.aload_n 0, 1) := by decide +kernel
theorem dX5_tighten_14 : decode cX5_tighten 14 = .ok (.aload_n 0, 1) := by decide +kernel
theorem dX5_tighten_15 : decode cX5_tighten 15 = .ok (.getfield 7, 3) := by decide +kernel
theorem dX5_tighten_18 : decode cX5_tighten 18 = .ok (.iconst 4, 1) := by decide +kernel
theorem dX5_tighten_19 : decode cX5_tighten 19 = .ok (.iaload, 1) := by decide +kernel
theorem dX5_tighten_20 : decode cX5_tighten 20 = .ok (.invokevirtual 88, 3) := by decide +kernel
theorem dX5_tighten_23 : decode cX5_tighten 23 = .ok (.istore_n 2, 1) := by decide +kernel
theorem dX5_tighten_24 : decode cX5_tighten 24 = .ok (.iload_n 2, 1) := by decide +kernel
theorem dX5_tighten_25 : decode cX5_tighten 25 = .ok (.ifCond .lt 21, 3) := by decide +kernel
theorem dX5_tighten_28 : decode cX5_tighten 28 = .ok (.aload_n 0, 1) := by decide +kernel
theorem dX5_tighten_29 : decode cX5_tighten 29 = .ok (.iload_n 2, 1) := by decide +kernel
theorem dX5_tighten_30 : decode cX5_tighten 30 = .ok (.invokevirtual 69, 3) := by decide +kernel
theorem dX5_tighten_33 : decode cX5_tighten 33 = .ok (.ifCond .eq 13, 3) := by decide +kernel
theorem dX5_tighten_36 : decode cX5_tighten 36 = .ok (.iload_n 1, 1) := by decide +kernel
theorem dX5_tighten_37 : decode cX5_tighten 37 = .ok (.aload_n 0, 1) := by decide +kernel
theorem dX5_tighten_38 : decode cX5_tighten 38 = .ok (.iload_n 2, 1) := by decide +kernel
theorem dX5_tighten_39 : decode cX5_tighten 39 = .ok (.iconst 3, 1) := by decide +kernel
theorem dX5_tighten_40 : decode cX5_tighten 40 = .ok (.invokevirtual 47, 3) := by decide +kernel
theorem dX5_tighten_43 : decode cX5_tighten 43 = .ok (.if_icmp .le 6, 3) := by decide +kernel
theorem dX5_tighten_46 : decode cX5_tighten 46 = .ok (.bipush (-5), 2) := by decide +kernel
theorem dX5_tighten_48 : decode cX5_tighten 48 = .ok (.ireturn, 1) := by decide +kernel
theorem dX5_tighten_49 : decode cX5_tighten 49 = .ok (.aload_n 0, 1) := by decide +kernel
theorem dX5_tighten_50 : decode cX5_tighten 50 = .ok (.invokevirtual 84, 3) := by decide +kernel
theorem dX5_tighten_53 : decode cX5_tighten 53 = .ok (.aload_n 0, 1) := by decide +kernel
theorem dX5_tighten_54 : decode cX5_tighten 54 = .ok (.iload_n 2, 1) := by decide +kernel
theorem dX5_tighten_55 : decode cX5_tighten 55 = .ok (.iconst 4, 1) := by decide +kernel
theorem dX5_tighten_56 : decode cX5_tighten 56 = .ok (.invokevirtual 47, 3) := by decide +kernel
theorem dX5_tighten_59 : decode cX5_tighten 59 = .ok (.istore_n 3, 1) := by decide +kernel
theorem dX5_tighten_60 : decode cX5_tighten 60 = .ok (.aload_n 0, 1) := by decide +kernel
theorem dX5_tighten_61 : decode cX5_tighten 61 = .ok (.iload_n 2, 1) := by decide +kernel
theorem dX5_tighten_62 : decode cX5_tighten 62 = .ok (.iconst 4, 1) := by decide +kernel
theorem dX5_tighten_63 : decode cX5_tighten 63 = .ok (.iload_n 1, 1) := by decide +kernel
theorem dX5_tighten_64 : decode cX5_tighten 64 = .ok (.invokevirtual 73, 3) := by decide +kernel
theorem dX5_tighten_67 : decode cX5_tighten 67 = .ok (.aload_n 0, 1) := by decide +kernel
theorem dX5_tighten_68 : decode cX5_tighten 68 = .ok (.iload_n 2, 1) := by decide +kernel
theorem dX5_tighten_69 : decode cX5_tighten 69 = .ok (.iload_n 1, 1) := by decide +kernel
theorem dX5_tighten_70 : decode cX5_tighten 70 = .ok (.iload_n 1, 1) := by decide +kernel
theorem dX5_tighten_71 : decode cX5_tighten 71 = .ok (.invokevirtual 100, 3) := by decide +kernel
theorem dX5_tighten_74 : decode cX5_tighten 74 = .ok (.iload_n 3, 1) := by decide +kernel
theorem dX5_tighten_75 : decode cX5_tighten 75 = .ok (.ireturn, 1) := by decide +kernel
theorem dX5_isSlack_0 : decode cX5_isSlack 0 = .ok (.aload_n 0, 1) := by decide +kernel
theorem dX5_isSlack_1 : decode cX5_isSlack 1 = .ok (.iload_n 1, 1) := by decide +kernel
theorem dX5_isSlack_2 : decode cX5_isSlack 2 = .ok (.invokevirtual 69, 3) := by decide +kernel
theorem dX5_isSlack_5 : decode cX5_isSlack 5 = .ok (.ifCond .eq 22, 3) := by decide +kernel
theorem dX5_isSlack_8 : decode cX5_isSlack 8 = .ok (.aload_n 0, 1) := by decide +kernel
theorem dX5_isSlack_9 : decode cX5_isSlack 9 = .ok (.iload_n 1, 1) := by decide +kernel
theorem dX5_isSlack_10 : decode cX5_isSlack 10 = .ok (.iconst 4, 1) := by decide +kernel
theorem dX5_isSlack_11 : decode cX5_isSlack 11 = .ok (.invokevirtual 47, 3) := by decide +kernel
theorem dX5_isSlack_14 : decode cX5_isSlack 14 = .ok (.aload_n 0, 1) := by decide +kernel
theorem dX5_isSlack_15 : decode cX5_isSlack 15 = .ok (.getfield 29, 3) := by decide +kernel
theorem dX5_isSlack_18 : decode cX5_isSlack 18 = .ok (.iload_n 1, 1) := by decide +kernel
theorem dX5_isSlack_19 : decode cX5_isSlack 19 = .ok (.iaload, 1) := by decide +kernel
theorem dX5_isSlack_20 : decode cX5_isSlack 20 = .ok (.if_icmp .ge 7, 3) := by decide +kernel
theorem dX5_isSlack_23 : decode cX5_isSlack 23 = .ok (.iconst 1, 1) := by decide +kernel
theorem dX5_isSlack_24 : decode cX5_isSlack 24 = .ok (.goto 4, 3) := by decide +kernel
theorem dX5_isSlack_27 : decode cX5_isSlack 27 = .ok (.iconst 0, 1) := by decide +kernel
theorem dX5_isSlack_28 : decode cX5_isSlack 28 = .ok (.ireturn, 1) := by decide +kernel
theorem dX5_isTight_0 : decode cX5_isTight 0 = .ok (.aload_n 0, 1) := by decide +kernel
theorem dX5_isTight_1 : decode cX5_isTight 1 = .ok (.getfield 29, 3) := by decide +kernel
theorem dX5_isTight_4 : decode cX5_isTight 4 = .ok (.iload_n 1, 1) := by decide +kernel
theorem dX5_isTight_5 : decode cX5_isTight 5 = .ok (.iaload, 1) := by decide +kernel
theorem dX5_isTight_6 : decode cX5_isTight 6 = .ok (.aload_n 0, 1) := by decide +kernel
theorem dX5_isTight_7 : decode cX5_isTight 7 = .ok (.getfield 29, 3) := by decide +kernel
theorem dX5_isTight_10 : decode cX5_isTight 10 = .ok (.iload_n 1, 1) := by decide +kernel
theorem dX5_isTight_11 : decode cX5_isTight 11 = .ok (.iaload, 1) := by decide +kernel
theorem dX5_isTight_12 : decode cX5_isTight 12 = .ok (.aload_n 0, 1) := by decide +kernel
theorem dX5_isTight_13 : decode cX5_isTight 13 = .ok (.getfield 7, 3) := by decide +kernel
theorem dX5_isTight_16 : decode cX5_isTight 16 = .ok (.iconst 1, 1) := by decide +kernel
theorem dX5_isTight_17 : decode cX5_isTight 17 = .ok (.iaload, 1) := by decide +kernel
theorem dX5_isTight_18 : decode cX5_isTight 18 = .ok (.imul, 1) := by decide +kernel
theorem dX5_isTight_19 : decode cX5_isTight 19 = .ok (.bipush 100, 2) := by decide +kernel
theorem dX5_isTight_21 : decode cX5_isTight 21 = .ok (.idiv, 1) := by decide +kernel
theorem dX5_isTight_22 : decode cX5_isTight 22 = .ok (.iadd, 1) := by decide +kernel
theorem dX5_isTight_23 : decode cX5_isTight 23 = .ok (.istore_n 2, 1) := by decide +kernel
theorem dX5_isTight_24 : decode cX5_isTight 24 = .ok (.aload_n 0, 1) := by decide +kernel
theorem dX5_isTight_25 : decode cX5_isTight 25 = .ok (.iload_n 1, 1) := by decide +kernel
theorem dX5_isTight_26 : decode cX5_isTight 26 = .ok (.invokevirtual 69, 3) := by decide +kernel
theorem dX5_isTight_29 : decode cX5_isTight 29 = .ok (.ifCond .eq 29, 3) := by decide +kernel
theorem dX5_isTight_32 : decode cX5_isTight 32 = .ok (.aload_n 0, 1) := by decide +kernel
theorem dX5_isTight_33 : decode cX5_isTight 33 = .ok (.iload_n 1, 1) := by decide +kernel
theorem dX5_isTight_34 : decode cX5_isTight 34 = .ok (.iconst 4, 1) := by decide +kernel
theorem dX5_isTight_35 : decode cX5_isTight 35 = .ok (.invokevirtual 47, 3) := by decide +kernel
theorem dX5_isTight_38 : decode cX5_isTight 38 = .ok (.iload_n 2, 1) := by decide +kernel
theorem dX5_isTight_39 : decode cX5_isTight 39 = .ok (.if_icmp .le 19, 3) := by decide +kernel
theorem dX5_isTight_42 : decode cX5_isTight 42 = .ok (.aload_n 0, 1) := by decide +kernel
theorem dX5_isTight_43 : decode cX5_isTight 43 = .ok (.iload_n 1, 1) := by decide +kernel
theorem dX5_isTight_44 : decode cX5_isTight 44 = .ok (.iconst 4, 1) := by decide +kernel
theorem dX5_isTight_45 : decode cX5_isTight 45 = .ok (.invokevirtual 47, 3) := by decide +kernel
theorem dX5_isTight_48 : decode cX5_isTight 48 = .ok (.sipush 1000, 3) := by decide +kernel
theorem dX5_isTight_51 : decode cX5_isTight 51 = .ok (.if_icmp .le 7, 3) := by decide +kernel
theorem dX5_isTight_54 : decode cX5_isTight 54 = .ok (.iconst 1, 1) := by decide +kernel
theorem dX5_isTight_55 : decode cX5_isTight 55 = .ok (.goto 4, 3) := by decide +kernel
theorem dX5_isTight_58 : decode cX5_isTight 58 = .ok (.iconst 0, 1) := by decide +kernel
theorem dX5_isTight_59 : decode cX5_isTight 59 = .ok (.ireturn, 1) := by decide +kernel
theorem dX5_ofWire_0 : decode cX5_ofWire 0 = .ok (.aload_n 0, 1) := by decide +kernel
theorem dX5_ofWire_1 : decode cX5_ofWire 1 = .ok (.iload_n 1, 1) := by decide +kernel
theorem dX5_ofWire_2 : decode cX5_ofWire 2 = .ok (.invokevirtual 112, 3) := by decide +kernel
theorem dX5_ofWire_5 : decode cX5_ofWire 5 = .ok (.ifCond .ne 5, 3) := by decide +kernel
theorem dX5_ofWire_8 : decode cX5_ofWire 8 = .ok (.iconst (-1), 1) := by decide +kernel
theorem dX5_ofWire_9 : decode cX5_ofWire 9 = .ok (.ireturn, 1) := by decide +kernel
theorem dX5_ofWire_10 : decode cX5_ofWire 10 = .ok (.aload_n 0, 1) := by decide +kernel
theorem dX5_ofWire_11 : decode cX5_ofWire 11 = .ok (.aload_n 0, 1) := by decide +kernel
theorem dX5_ofWire_12 : decode cX5_ofWire 12 = .ok (.iconst 0, 1) := by decide +kernel
theorem dX5_ofWire_13 : decode cX5_ofWire 13 = .ok (.invokevirtual 61, 3) := by decide +kernel
theorem dX5_ofWire_16 : decode cX5_ofWire 16 = .ok (.invokevirtual 65, 3) := by decide +kernel
theorem dX5_ofWire_19 : decode cX5_ofWire 19 = .ok (.iload_n 2, 1) := by decide +kernel
theorem dX5_ofWire_20 : decode cX5_ofWire 20 = .ok (.tableswitch 91 6 10 #[36, 48, 55, 69, 83], 36) := by decide +kernel
theorem dX5_ofWire_56 : decode cX5_ofWire 56 = .ok (.aload_n 0, 1) := by decide +kernel
theorem dX5_ofWire_57 : decode cX5_ofWire 57 = .ok (.iload_n 1, 1) := by decide +kernel
theorem dX5_ofWire_58 : decode cX5_ofWire 58 = .ok (.aload_n 0, 1) := by decide +kernel
theorem dX5_ofWire_59 : decode cX5_ofWire 59 = .ok (.iload_n 1, 1) := by decide +kernel
theorem dX5_ofWire_60 : decode cX5_ofWire 60 = .ok (.iconst 4, 1) := by decide +kernel
theorem dX5_ofWire_61 : decode cX5_ofWire 61 = .ok (.invokevirtual 47, 3) := by decide +kernel
theorem dX5_ofWire_64 : decode cX5_ofWire 64 = .ok (.invokevirtual 103, 3) := by decide +kernel
theorem dX5_ofWire_67 : decode cX5_ofWire 67 = .ok (.ireturn, 1) := by decide +kernel
theorem dX5_ofWire_68 : decode cX5_ofWire 68 = .ok (.aload_n 0, 1) := by decide +kernel
theorem dX5_ofWire_69 : decode cX5_ofWire 69 = .ok (.getfield 29, 3) := by decide +kernel
theorem dX5_ofWire_72 : decode cX5_ofWire 72 = .ok (.iload_n 1, 1) := by decide +kernel
theorem dX5_ofWire_73 : decode cX5_ofWire 73 = .ok (.iaload, 1) := by decide +kernel
theorem dX5_ofWire_74 : decode cX5_ofWire 74 = .ok (.ireturn, 1) := by decide +kernel
theorem dX5_ofWire_75 : decode cX5_ofWire 75 = .ok (.aload_n 0, 1) := by decide +kernel
theorem dX5_ofWire_76 : decode cX5_ofWire 76 = .ok (.iload_n 1, 1) := by decide +kernel
theorem dX5_ofWire_77 : decode cX5_ofWire 77 = .ok (.invokevirtual 115, 3) := by decide +kernel
theorem dX5_ofWire_80 : decode cX5_ofWire 80 = .ok (.ifCond .eq 7, 3) := by decide +kernel
theorem dX5_ofWire_83 : decode cX5_ofWire 83 = .ok (.iconst 1, 1) := by decide +kernel
theorem dX5_ofWire_84 : decode cX5_ofWire 84 = .ok (.goto 4, 3) := by decide +kernel
theorem dX5_ofWire_87 : decode cX5_ofWire 87 = .ok (.iconst 0, 1) := by decide +kernel
theorem dX5_ofWire_88 : decode cX5_ofWire 88 = .ok (.ireturn, 1) := by decide +kernel
theorem dX5_ofWire_89 : decode cX5_ofWire 89 = .ok (.aload_n 0, 1) := by decide +kernel
theorem dX5_ofWire_90 : decode cX5_ofWire 90 = .ok (.iload_n 1, 1) := by decide +kernel
theorem dX5_ofWire_91 : decode cX5_ofWire 91 = .ok (.invokevirtual 118, 3) := by decide +kernel
theorem dX5_ofWire_94 : decode cX5_ofWire 94 = .ok (.ifCond .eq 7, 3) := by decide +kernel
theorem dX5_ofWire_97 : decode cX5_ofWire 97 = .ok (.iconst 1, 1) := by decide +kernel
theorem dX5_ofWire_98 : decode cX5_ofWire 98 = .ok (.goto 4, 3) := by decide +kernel
theorem dX5_ofWire_101 : decode cX5_ofWire 101 = .ok (.iconst 0, 1) := by decide +kernel
theorem dX5_ofWire_102 : decode cX5_ofWire 102 = .ok (.ireturn, 1) := by decide +kernel
theorem dX5_ofWire_103 : decode cX5_ofWire 103 = .ok (.aload_n 0, 1) := by decide +kernel
theorem dX5_ofWire_104 : decode cX5_ofWire 104 = .ok (.iload_n 1, 1) := by decide +kernel
theorem dX5_ofWire_105 : decode cX5_ofWire 105 = .ok (.bipush 6, 2) := by decide +kernel
theorem dX5_ofWire_107 : decode cX5_ofWire 107 = .ok (.invokevirtual 47, 3) := by decide +kernel
theorem dX5_ofWire_110 : decode cX5_ofWire 110 = .ok (.ireturn, 1) := by decide +kernel
theorem dX5_ofWire_111 : decode cX5_ofWire 111 = .ok (.iload_n 2, 1) := by decide +kernel
theorem dX5_ofWire_112 : decode cX5_ofWire 112 = .ok (.iconst 0, 1) := by decide +kernel
theorem dX5_ofWire_113 : decode cX5_ofWire 113 = .ok (.iconst 5, 1) := by decide +kernel
theorem dX5_ofWire_114 : decode cX5_ofWire 114 = .ok (.invokestatic 43, 3) := by decide +kernel
theorem dX5_ofWire_117 : decode cX5_ofWire 117 = .ok (.ifCond .eq 12, 3) := by decide +kernel
theorem dX5_ofWire_120 : decode cX5_ofWire 120 = .ok (.aload_n 0, 1) := by decide +kernel
theorem dX5_ofWire_121 : decode cX5_ofWire 121 = .ok (.iload_n 1, 1) := by decide +kernel
theorem dX5_ofWire_122 : decode cX5_ofWire 122 = .ok (.iload_n 2, 1) := by decide +kernel
theorem dX5_ofWire_123 : decode cX5_ofWire 123 = .ok (.invokevirtual 47, 3) := by decide +kernel
theorem dX5_ofWire_126 : decode cX5_ofWire 126 = .ok (.goto 5, 3) := by decide +kernel
theorem dX5_ofWire_129 : decode cX5_ofWire 129 = .ok (.bipush (-2), 2) := by decide +kernel
theorem dX5_ofWire_131 : decode cX5_ofWire 131 = .ok (.ireturn, 1) := by decide +kernel
theorem dX5_isSurely_0 : decode cX5_isSurely 0 = .ok (.aload_n 0, 1) := by decide +kernel
theorem dX5_isSurely_1 : decode cX5_isSurely 1 = .ok (.iload_n 1, 1) := by decide +kernel
theorem dX5_isSurely_2 : decode cX5_isSurely 2 = .ok (.bipush 7, 2) := by decide +kernel
theorem dX5_isSurely_4 : decode cX5_isSurely 4 = .ok (.invokevirtual 47, 3) := by decide +kernel
theorem dX5_isSurely_7 : decode cX5_isSurely 7 = .ok (.ifCond .lt 23, 3) := by decide +kernel
theorem dX5_isSurely_10 : decode cX5_isSurely 10 = .ok (.aload_n 0, 1) := by decide +kernel
theorem dX5_isSurely_11 : decode cX5_isSurely 11 = .ok (.iload_n 1, 1) := by decide +kernel
theorem dX5_isSurely_12 : decode cX5_isSurely 12 = .ok (.bipush 9, 2) := by decide +kernel
theorem dX5_isSurely_14 : decode cX5_isSurely 14 = .ok (.invokevirtual 47, 3) := by decide +kernel
theorem dX5_isSurely_17 : decode cX5_isSurely 17 = .ok (.aload_n 0, 1) := by decide +kernel
theorem dX5_isSurely_18 : decode cX5_isSurely 18 = .ok (.getfield 29, 3) := by decide +kernel
theorem dX5_isSurely_21 : decode cX5_isSurely 21 = .ok (.iload_n 1, 1) := by decide +kernel
theorem dX5_isSurely_22 : decode cX5_isSurely 22 = .ok (.iaload, 1) := by decide +kernel
theorem dX5_isSurely_23 : decode cX5_isSurely 23 = .ok (.if_icmp .ge 7, 3) := by decide +kernel
theorem dX5_isSurely_26 : decode cX5_isSurely 26 = .ok (.iconst 1, 1) := by decide +kernel
theorem dX5_isSurely_27 : decode cX5_isSurely 27 = .ok (.goto 4, 3) := by decide +kernel
theorem dX5_isSurely_30 : decode cX5_isSurely 30 = .ok (.iconst 0, 1) := by decide +kernel
theorem dX5_isSurely_31 : decode cX5_isSurely 31 = .ok (.ireturn, 1) := by decide +kernel
theorem dX5_mayBe_0 : decode cX5_mayBe 0 = .ok (.aload_n 0, 1) := by decide +kernel
theorem dX5_mayBe_1 : decode cX5_mayBe 1 = .ok (.iload_n 1, 1) := by decide +kernel
theorem dX5_mayBe_2 : decode cX5_mayBe 2 = .ok (.invokevirtual 121, 3) := by decide +kernel
theorem dX5_mayBe_5 : decode cX5_mayBe 5 = .ok (.ifCond .ne 33, 3) := by decide +kernel
theorem dX5_mayBe_8 : decode cX5_mayBe 8 = .ok (.aload_n 0, 1) := by decide +kernel
theorem dX5_mayBe_9 : decode cX5_mayBe 9 = .ok (.iload_n 1, 1) := by decide +kernel
theorem dX5_mayBe_10 : decode cX5_mayBe 10 = .ok (.bipush 7, 2) := by decide +kernel
theorem dX5_mayBe_12 : decode cX5_mayBe 12 = .ok (.invokevirtual 47, 3) := by decide +kernel
theorem dX5_mayBe_15 : decode cX5_mayBe 15 = .ok (.ifCond .lt 19, 3) := by decide +kernel
theorem dX5_mayBe_18 : decode cX5_mayBe 18 = .ok (.aload_n 0, 1) := by decide +kernel
theorem dX5_mayBe_19 : decode cX5_mayBe 19 = .ok (.iload_n 1, 1) := by decide +kernel
theorem dX5_mayBe_20 : decode cX5_mayBe 20 = .ok (.bipush 8, 2) := by decide +kernel
theorem dX5_mayBe_22 : decode cX5_mayBe 22 = .ok (.invokevirtual 47, 3) := by decide +kernel
theorem dX5_mayBe_25 : decode cX5_mayBe 25 = .ok (.aload_n 0, 1) := by decide +kernel
theorem dX5_mayBe_26 : decode cX5_mayBe 26 = .ok (.getfield 29, 3) := by decide +kernel
theorem dX5_mayBe_29 : decode cX5_mayBe 29 = .ok (.iload_n 1, 1) := by decide +kernel
theorem dX5_mayBe_30 : decode cX5_mayBe 30 = .ok (.iaload, 1) := by decide +kernel
theorem dX5_mayBe_31 : decode cX5_mayBe 31 = .ok (.if_icmp .ge 7, 3) := by decide +kernel
theorem dX5_mayBe_34 : decode cX5_mayBe 34 = .ok (.iconst 1, 1) := by decide +kernel
theorem dX5_mayBe_35 : decode cX5_mayBe 35 = .ok (.goto 4, 3) := by decide +kernel
theorem dX5_mayBe_38 : decode cX5_mayBe 38 = .ok (.iconst 0, 1) := by decide +kernel
theorem dX5_mayBe_39 : decode cX5_mayBe 39 = .ok (.ireturn, 1) := by decide +kernel
theorem dX5_known_0 : decode cX5_known 0 = .ok (.aload_n 0, 1) := by decide +kernel
theorem dX5_known_1 : decode cX5_known 1 = .ok (.iload_n 1, 1) := by decide +kernel
theorem dX5_known_2 : decode cX5_known 2 = .ok (.invokevirtual 112, 3) := by decide +kernel
theorem dX5_known_5 : decode cX5_known 5 = .ok (.ifCond .ne 5, 3) := by decide +kernel
theorem dX5_known_8 : decode cX5_known 8 = .ok (.iconst (-1), 1) := by decide +kernel
theorem dX5_known_9 : decode cX5_known 9 = .ok (.ireturn, 1) := by decide +kernel
theorem dX5_known_10 : decode cX5_known 10 = .ok (.aload_n 0, 1) := by decide +kernel
theorem dX5_known_11 : decode cX5_known 11 = .ok (.aload_n 0, 1) := by decide +kernel
theorem dX5_known_12 : decode cX5_known 12 = .ok (.iconst 1, 1) := by decide +kernel
theorem dX5_known_13 : decode cX5_known 13 = .ok (.invokevirtual 61, 3) := by decide +kernel
theorem dX5_known_16 : decode cX5_known 16 = .ok (.invokevirtual 65, 3) := by decide +kernel
theorem dX5_known_19 : decode cX5_known 19 = .ok (.iload_n 2, 1) := by decide +kernel
theorem dX5_known_20 : decode cX5_known 20 = .ok (.tableswitch 71 0 5 #[40, 40, 40, 40, 50, 57], 40) := by decide +kernel
theorem dX5_known_60 : decode cX5_known 60 = .ok (.aload_n 0, 1) := by decide +kernel
theorem dX5_known_61 : decode cX5_known 61 = .ok (.iload_n 1, 1) := by decide +kernel
theorem dX5_known_62 : decode cX5_known 62 = .ok (.bipush 7, 2) := by decide +kernel
theorem dX5_known_64 : decode cX5_known 64 = .ok (.iload_n 2, 1) := by decide +kernel
theorem dX5_known_65 : decode cX5_known 65 = .ok (.iadd, 1) := by decide +kernel
theorem dX5_known_66 : decode cX5_known 66 = .ok (.invokevirtual 47, 3) := by decide +kernel
theorem dX5_known_69 : decode cX5_known 69 = .ok (.ireturn, 1) := by decide +kernel
theorem dX5_known_70 : decode cX5_known 70 = .ok (.aload_n 0, 1) := by decide +kernel
theorem dX5_known_71 : decode cX5_known 71 = .ok (.getfield 29, 3) := by decide +kernel
theorem dX5_known_74 : decode cX5_known 74 = .ok (.iload_n 1, 1) := by decide +kernel
theorem dX5_known_75 : decode cX5_known 75 = .ok (.iaload, 1) := by decide +kernel
theorem dX5_known_76 : decode cX5_known 76 = .ok (.ireturn, 1) := by decide +kernel
theorem dX5_known_77 : decode cX5_known 77 = .ok (.aload_n 0, 1) := by decide +kernel
theorem dX5_known_78 : decode cX5_known 78 = .ok (.iload_n 1, 1) := by decide +kernel
theorem dX5_known_79 : decode cX5_known 79 = .ok (.invokevirtual 121, 3) := by decide +kernel
theorem dX5_known_82 : decode cX5_known 82 = .ok (.ifCond .eq 7, 3) := by decide +kernel
theorem dX5_known_85 : decode cX5_known 85 = .ok (.iconst 1, 1) := by decide +kernel
theorem dX5_known_86 : decode cX5_known 86 = .ok (.goto 4, 3) := by decide +kernel
theorem dX5_known_89 : decode cX5_known 89 = .ok (.iconst 0, 1) := by decide +kernel
theorem dX5_known_90 : decode cX5_known 90 = .ok (.ireturn, 1) := by decide +kernel
theorem dX5_known_91 : decode cX5_known 91 = .ok (.iload_n 2, 1) := by decide +kernel
theorem dX5_known_92 : decode cX5_known 92 = .ok (.bipush 6, 2) := by decide +kernel
theorem dX5_known_94 : decode cX5_known 94 = .ok (.if_icmp .ne 19, 3) := by decide +kernel
theorem dX5_known_97 : decode cX5_known 97 = .ok (.aload_n 0, 1) := by decide +kernel
theorem dX5_known_98 : decode cX5_known 98 = .ok (.iload_n 1, 1) := by decide +kernel
theorem dX5_known_99 : decode cX5_known 99 = .ok (.invokevirtual 124, 3) := by decide +kernel
theorem dX5_known_102 : decode cX5_known 102 = .ok (.ifCond .eq 7, 3) := by decide +kernel
theorem dX5_known_105 : decode cX5_known 105 = .ok (.iconst 1, 1) := by decide +kernel
theorem dX5_known_106 : decode cX5_known 106 = .ok (.goto 9, 3) := by decide +kernel
theorem dX5_known_109 : decode cX5_known 109 = .ok (.iconst 0, 1) := by decide +kernel
theorem dX5_known_110 : decode cX5_known 110 = .ok (.goto 5, 3) := by decide +kernel
theorem dX5_known_113 : decode cX5_known 113 = .ok (.bipush (-2), 2) := by decide +kernel
theorem dX5_known_115 : decode cX5_known 115 = .ok (.ireturn, 1) := by decide +kernel
theorem dX5_loads_0 : decode cX5_loads 0 = .ok (.iconst 0, 1) := by decide +kernel
theorem dX5_loads_1 : decode cX5_loads 1 = .ok (.istore_n 1, 1) := by decide +kernel
theorem dX5_loads_2 : decode cX5_loads 2 = .ok (.iconst 0, 1) := by decide +kernel
theorem dX5_loads_3 : decode cX5_loads 3 = .ok (.istore_n 2, 1) := by decide +kernel
theorem dX5_loads_4 : decode cX5_loads 4 = .ok (.iload_n 2, 1) := by decide +kernel
theorem dX5_loads_5 : decode cX5_loads 5 = .ok (.bipush 20, 2) := by decide +kernel
theorem dX5_loads_7 : decode cX5_loads 7 = .ok (.if_icmp .ge 21, 3) := by decide +kernel
theorem dX5_loads_10 : decode cX5_loads 10 = .ok (.iload_n 1, 1) := by decide +kernel
theorem dX5_loads_11 : decode cX5_loads 11 = .ok (.aload_n 0, 1) := by decide +kernel
theorem dX5_loads_12 : decode cX5_loads 12 = .ok (.getfield 7, 3) := by decide +kernel
theorem dX5_loads_15 : decode cX5_loads 15 = .ok (.bipush 10, 2) := by decide +kernel
theorem dX5_loads_17 : decode cX5_loads 17 = .ok (.iload_n 2, 1) := by decide +kernel
theorem dX5_loads_18 : decode cX5_loads 18 = .ok (.iadd, 1) := by decide +kernel
theorem dX5_loads_19 : decode cX5_loads 19 = .ok (.iaload, 1) := by decide +kernel
theorem dX5_loads_20 : decode cX5_loads 20 = .ok (.iadd, 1) := by decide +kernel
theorem dX5_loads_21 : decode cX5_loads 21 = .ok (.istore_n 1, 1) := by decide +kernel
theorem dX5_loads_22 : decode cX5_loads 22 = .ok (.iinc 2 1, 3) := by decide +kernel
theorem dX5_loads_25 : decode cX5_loads 25 = .ok (.goto (-21), 3) := by decide +kernel
theorem dX5_loads_28 : decode cX5_loads 28 = .ok (.iload_n 1, 1) := by decide +kernel
theorem dX5_loads_29 : decode cX5_loads 29 = .ok (.ireturn, 1) := by decide +kernel
theorem dX5_wiresWith_0 : decode cX5_wiresWith 0 = .ok (.aload_n 0, 1) := by decide +kernel
theorem dX5_wiresWith_1 : decode cX5_wiresWith 1 = .ok (.aload_n 0, 1) := by decide +kernel
theorem dX5_wiresWith_2 : decode cX5_wiresWith 2 = .ok (.iconst 0, 1) := by decide +kernel
theorem dX5_wiresWith_3 : decode cX5_wiresWith 3 = .ok (.invokevirtual 61, 3) := by decide +kernel
theorem dX5_wiresWith_6 : decode cX5_wiresWith 6 = .ok (.invokevirtual 65, 3) := by decide +kernel
theorem dX5_wiresWith_9 : decode cX5_wiresWith 9 = .ok (.iconst 0, 1) := by decide +kernel
theorem dX5_wiresWith_10 : decode cX5_wiresWith 10 = .ok (.istore_n 2, 1) := by decide +kernel
theorem dX5_wiresWith_11 : decode cX5_wiresWith 11 = .ok (.iconst 0, 1) := by decide +kernel
theorem dX5_wiresWith_12 : decode cX5_wiresWith 12 = .ok (.istore_n 3, 1) := by decide +kernel
theorem dX5_wiresWith_13 : decode cX5_wiresWith 13 = .ok (.iload_n 3, 1) := by decide +kernel
theorem dX5_wiresWith_14 : decode cX5_wiresWith 14 = .ok (.aload_n 0, 1) := by decide +kernel
theorem dX5_wiresWith_15 : decode cX5_wiresWith 15 = .ok (.getfield 7, 3) := by decide +kernel
theorem dX5_wiresWith_18 : decode cX5_wiresWith 18 = .ok (.iconst 3, 1) := by decide +kernel
theorem dX5_wiresWith_19 : decode cX5_wiresWith 19 = .ok (.iaload, 1) := by decide +kernel
theorem dX5_wiresWith_20 : decode cX5_wiresWith 20 = .ok (.if_icmp .ge 62, 3) := by decide +kernel
theorem dX5_wiresWith_23 : decode cX5_wiresWith 23 = .ok (.iload_n 1, 1) := by decide +kernel
theorem dX5_wiresWith_24 : decode cX5_wiresWith 24 = .ok (.ifCond .ne 19, 3) := by decide +kernel
theorem dX5_wiresWith_27 : decode cX5_wiresWith 27 = .ok (.aload_n 0, 1) := by decide +kernel
theorem dX5_wiresWith_28 : decode cX5_wiresWith 28 = .ok (.iload_n 3, 1) := by decide +kernel
theorem dX5_wiresWith_29 : decode cX5_wiresWith 29 = .ok (.invokevirtual 69, 3) := by decide +kernel
theorem dX5_wiresWith_32 : decode cX5_wiresWith 32 = .ok (.ifCond .ne 7, 3) := by decide +kernel
theorem dX5_wiresWith_35 : decode cX5_wiresWith 35 = .ok (.iconst 1, 1) := by decide +kernel
theorem dX5_wiresWith_36 : decode cX5_wiresWith 36 = .ok (.goto 25, 3) := by decide +kernel
theorem dX5_wiresWith_39 : decode cX5_wiresWith 39 = .ok (.iconst 0, 1) := by decide +kernel
theorem dX5_wiresWith_40 : decode cX5_wiresWith 40 = .ok (.goto 21, 3) := by decide +kernel
theorem dX5_wiresWith_43 : decode cX5_wiresWith 43 = .ok (.iload_n 1, 1) := by decide +kernel
theorem dX5_wiresWith_44 : decode cX5_wiresWith 44 = .ok (.iconst 1, 1) := by decide +kernel
theorem dX5_wiresWith_45 : decode cX5_wiresWith 45 = .ok (.if_icmp .ne 11, 3) := by decide +kernel
theorem dX5_wiresWith_48 : decode cX5_wiresWith 48 = .ok (.aload_n 0, 1) := by decide +kernel
theorem dX5_wiresWith_49 : decode cX5_wiresWith 49 = .ok (.iload_n 3, 1) := by decide +kernel
theorem dX5_wiresWith_50 : decode cX5_wiresWith 50 = .ok (.invokevirtual 115, 3) := by decide +kernel
theorem dX5_wiresWith_53 : decode cX5_wiresWith 53 = .ok (.goto 8, 3) := by decide +kernel
theorem dX5_wiresWith_56 : decode cX5_wiresWith 56 = .ok (.aload_n 0, 1) := by decide +kernel
theorem dX5_wiresWith_57 : decode cX5_wiresWith 57 = .ok (.iload_n 3, 1) := by decide +kernel
theorem dX5_wiresWith_58 : decode cX5_wiresWith 58 = .ok (.invokevirtual 118, 3) := by decide +kernel
theorem dX5_wiresWith_61 : decode cX5_wiresWith 61 = .ok (.istore 4, 2) := by decide +kernel
theorem dX5_wiresWith_63 : decode cX5_wiresWith 63 = .ok (.iload_n 2, 1) := by decide +kernel
theorem dX5_wiresWith_64 : decode cX5_wiresWith 64 = .ok (.iload 4, 2) := by decide +kernel
theorem dX5_wiresWith_66 : decode cX5_wiresWith 66 = .ok (.ifCond .eq 7, 3) := by decide +kernel
theorem dX5_wiresWith_69 : decode cX5_wiresWith 69 = .ok (.iconst 1, 1) := by decide +kernel
theorem dX5_wiresWith_70 : decode cX5_wiresWith 70 = .ok (.goto 4, 3) := by decide +kernel
theorem dX5_wiresWith_73 : decode cX5_wiresWith 73 = .ok (.iconst 0, 1) := by decide +kernel
theorem dX5_wiresWith_74 : decode cX5_wiresWith 74 = .ok (.iadd, 1) := by decide +kernel
theorem dX5_wiresWith_75 : decode cX5_wiresWith 75 = .ok (.istore_n 2, 1) := by decide +kernel
theorem dX5_wiresWith_76 : decode cX5_wiresWith 76 = .ok (.iinc 3 1, 3) := by decide +kernel
theorem dX5_wiresWith_79 : decode cX5_wiresWith 79 = .ok (.goto (-66), 3) := by decide +kernel
theorem dX5_wiresWith_82 : decode cX5_wiresWith 82 = .ok (.iload_n 2, 1) := by decide +kernel
theorem dX5_wiresWith_83 : decode cX5_wiresWith 83 = .ok (.ireturn, 1) := by decide +kernel
theorem dX5_count_0 : decode cX5_count 0 = .ok (.iload_n 1, 1) := by decide +kernel
theorem dX5_count_1 : decode cX5_count 1 = .ok (.tableswitch 126 0 10 #[59, 59, 68, 74, 74, 85, 90, 107, 107, 116, 121], 59) := by decide +kernel
theorem dX5_count_60 : decode cX5_count 60 = .ok (.aload_n 0, 1) := by decide +kernel
theorem dX5_count_61 : decode cX5_count 61 = .ok (.getfield 7, 3) := by decide +kernel
theorem dX5_count_64 : decode cX5_count 64 = .ok (.iconst 2, 1) := by decide +kernel
theorem dX5_count_65 : decode cX5_count 65 = .ok (.iload_n 1, 1) := by decide +kernel
theorem dX5_count_66 : decode cX5_count 66 = .ok (.iadd, 1) := by decide +kernel
theorem dX5_count_67 : decode cX5_count 67 = .ok (.iaload, 1) := by decide +kernel
theorem dX5_count_68 : decode cX5_count 68 = .ok (.ireturn, 1) := by decide +kernel
theorem dX5_count_69 : decode cX5_count 69 = .ok (.aload_n 0, 1) := by decide +kernel
theorem dX5_count_70 : decode cX5_count 70 = .ok (.iconst 0, 1) := by decide +kernel
theorem dX5_count_71 : decode cX5_count 71 = .ok (.invokevirtual 127, 3) := by decide +kernel
theorem dX5_count_74 : decode cX5_count 74 = .ok (.ireturn, 1) := by decide +kernel
theorem dX5_count_75 : decode cX5_count 75 = .ok (.aload_n 0, 1) := by decide +kernel
theorem dX5_count_76 : decode cX5_count 76 = .ok (.getfield 7, 3) := by decide +kernel
theorem dX5_count_79 : decode cX5_count 79 = .ok (.iconst 4, 1) := by decide +kernel
theorem dX5_count_80 : decode cX5_count 80 = .ok (.iload_n 1, 1) := by decide +kernel
theorem dX5_count_81 : decode cX5_count 81 = .ok (.iadd, 1) := by decide +kernel
theorem dX5_count_82 : decode cX5_count 82 = .ok (.iconst 3, 1) := by decide +kernel
theorem dX5_count_83 : decode cX5_count 83 = .ok (.isub, 1) := by decide +kernel
theorem dX5_count_84 : decode cX5_count 84 = .ok (.iaload, 1) := by decide +kernel
theorem dX5_count_85 : decode cX5_count 85 = .ok (.ireturn, 1) := by decide +kernel
theorem dX5_count_86 : decode cX5_count 86 = .ok (.aload_n 0, 1) := by decide +kernel
theorem dX5_count_87 : decode cX5_count 87 = .ok (.invokevirtual 130, 3) := by decide +kernel
theorem dX5_count_90 : decode cX5_count 90 = .ok (.ireturn, 1) := by decide +kernel
theorem dX5_count_91 : decode cX5_count 91 = .ok (.aload_n 0, 1) := by decide +kernel
theorem dX5_count_92 : decode cX5_count 92 = .ok (.iconst 0, 1) := by decide +kernel
theorem dX5_count_93 : decode cX5_count 93 = .ok (.invokevirtual 61, 3) := by decide +kernel
theorem dX5_count_96 : decode cX5_count 96 = .ok (.ifCond .ne 10, 3) := by decide +kernel
theorem dX5_count_99 : decode cX5_count 99 = .ok (.aload_n 0, 1) := by decide +kernel
theorem dX5_count_100 : decode cX5_count 100 = .ok (.invokevirtual 130, 3) := by decide +kernel
theorem dX5_count_103 : decode cX5_count 103 = .ok (.goto 4, 3) := by decide +kernel
theorem dX5_count_106 : decode cX5_count 106 = .ok (.iconst 0, 1) := by decide +kernel
theorem dX5_count_107 : decode cX5_count 107 = .ok (.ireturn, 1) := by decide +kernel
theorem dX5_count_108 : decode cX5_count 108 = .ok (.aload_n 0, 1) := by decide +kernel
theorem dX5_count_109 : decode cX5_count 109 = .ok (.iload_n 1, 1) := by decide +kernel
theorem dX5_count_110 : decode cX5_count 110 = .ok (.bipush 6, 2) := by decide +kernel
theorem dX5_count_112 : decode cX5_count 112 = .ok (.isub, 1) := by decide +kernel
theorem dX5_count_113 : decode cX5_count 113 = .ok (.invokevirtual 127, 3) := by decide +kernel
theorem dX5_count_116 : decode cX5_count 116 = .ok (.ireturn, 1) := by decide +kernel
theorem dX5_count_117 : decode cX5_count 117 = .ok (.aload_n 0, 1) := by decide +kernel
theorem dX5_count_118 : decode cX5_count 118 = .ok (.getfield 133, 3) := by decide +kernel
theorem dX5_count_121 : decode cX5_count 121 = .ok (.ireturn, 1) := by decide +kernel
theorem dX5_count_122 : decode cX5_count 122 = .ok (.aload_n 0, 1) := by decide +kernel
theorem dX5_count_123 : decode cX5_count 123 = .ok (.getfield 39, 3) := by decide +kernel
theorem dX5_count_126 : decode cX5_count 126 = .ok (.ireturn, 1) := by decide +kernel
theorem dX5_count_127 : decode cX5_count 127 = .ok (.iload_n 1, 1) := by decide +kernel
theorem dX5_count_128 : decode cX5_count 128 = .ok (.bipush 11, 2) := by decide +kernel
theorem dX5_count_130 : decode cX5_count 130 = .ok (.bipush 12, 2) := by decide +kernel
theorem dX5_count_132 : decode cX5_count 132 = .ok (.invokestatic 43, 3) := by decide +kernel
theorem dX5_count_135 : decode cX5_count 135 = .ok (.ifCond .eq 15, 3) := by decide +kernel
theorem dX5_count_138 : decode cX5_count 138 = .ok (.aload_n 0, 1) := by decide +kernel
theorem dX5_count_139 : decode cX5_count 139 = .ok (.getfield 7, 3) := by decide +kernel
theorem dX5_count_142 : decode cX5_count 142 = .ok (.iload_n 1, 1) := by decide +kernel
theorem dX5_count_143 : decode cX5_count 143 = .ok (.bipush 11, 2) := by decide +kernel
theorem dX5_count_145 : decode cX5_count 145 = .ok (.isub, 1) := by decide +kernel
theorem dX5_count_146 : decode cX5_count 146 = .ok (.iaload, 1) := by decide +kernel
theorem dX5_count_147 : decode cX5_count 147 = .ok (.goto 5, 3) := by decide +kernel
theorem dX5_count_150 : decode cX5_count 150 = .ok (.bipush (-2), 2) := by decide +kernel
theorem dX5_count_152 : decode cX5_count 152 = .ok (.ireturn, 1) := by decide +kernel
theorem dX5_pitchAt_0 : decode cX5_pitchAt 0 = .ok (.aload_n 0, 1) := by decide +kernel
theorem dX5_pitchAt_1 : decode cX5_pitchAt 1 = .ok (.iload_n 1, 1) := by decide +kernel
theorem dX5_pitchAt_2 : decode cX5_pitchAt 2 = .ok (.invokevirtual 112, 3) := by decide +kernel
theorem dX5_pitchAt_5 : decode cX5_pitchAt 5 = .ok (.ifCond .ne 5, 3) := by decide +kernel
theorem dX5_pitchAt_8 : decode cX5_pitchAt 8 = .ok (.iconst (-1), 1) := by decide +kernel
theorem dX5_pitchAt_9 : decode cX5_pitchAt 9 = .ok (.ireturn, 1) := by decide +kernel
theorem dX5_pitchAt_10 : decode cX5_pitchAt 10 = .ok (.iload_n 2, 1) := by decide +kernel
theorem dX5_pitchAt_11 : decode cX5_pitchAt 11 = .ok (.iconst 0, 1) := by decide +kernel
theorem dX5_pitchAt_12 : decode cX5_pitchAt 12 = .ok (.ldc 87, 2) := by decide +kernel
theorem dX5_pitchAt_14 : decode cX5_pitchAt 14 = .ok (.invokestatic 43, 3) := by decide +kernel
theorem dX5_pitchAt_17 : decode cX5_pitchAt 17 = .ok (.ifCond .eq 12, 3) := by decide +kernel
theorem dX5_pitchAt_20 : decode cX5_pitchAt 20 = .ok (.aload_n 0, 1) := by decide +kernel
theorem dX5_pitchAt_21 : decode cX5_pitchAt 21 = .ok (.iload_n 1, 1) := by decide +kernel
theorem dX5_pitchAt_22 : decode cX5_pitchAt 22 = .ok (.iload_n 2, 1) := by decide +kernel
theorem dX5_pitchAt_23 : decode cX5_pitchAt 23 = .ok (.invokevirtual 103, 3) := by decide +kernel
theorem dX5_pitchAt_26 : decode cX5_pitchAt 26 = .ok (.goto 5, 3) := by decide +kernel
theorem dX5_pitchAt_29 : decode cX5_pitchAt 29 = .ok (.bipush (-2), 2) := by decide +kernel
theorem dX5_pitchAt_31 : decode cX5_pitchAt 31 = .ok (.ireturn, 1) := by decide +kernel
theorem dX5_tensionFor_0 : decode cX5_tensionFor 0 = .ok (.aload_n 0, 1) := by decide +kernel
theorem dX5_tensionFor_1 : decode cX5_tensionFor 1 = .ok (.iload_n 1, 1) := by decide +kernel
theorem dX5_tensionFor_2 : decode cX5_tensionFor 2 = .ok (.invokevirtual 112, 3) := by decide +kernel
theorem dX5_tensionFor_5 : decode cX5_tensionFor 5 = .ok (.ifCond .ne 5, 3) := by decide +kernel
theorem dX5_tensionFor_8 : decode cX5_tensionFor 8 = .ok (.iconst (-1), 1) := by decide +kernel
theorem dX5_tensionFor_9 : decode cX5_tensionFor 9 = .ok (.ireturn, 1) := by decide +kernel
theorem dX5_tensionFor_10 : decode cX5_tensionFor 10 = .ok (.iload_n 2, 1) := by decide +kernel
theorem dX5_tensionFor_11 : decode cX5_tensionFor 11 = .ok (.iconst 0, 1) := by decide +kernel
theorem dX5_tensionFor_12 : decode cX5_tensionFor 12 = .ok (.ldc 136, 2) := by decide +kernel
theorem dX5_tensionFor_14 : decode cX5_tensionFor 14 = .ok (.invokestatic 43, 3) := by decide +kernel
theorem dX5_tensionFor_17 : decode cX5_tensionFor 17 = .ok (.ifCond .ne 6, 3) := by decide +kernel
theorem dX5_tensionFor_20 : decode cX5_tensionFor 20 = .ok (.bipush (-2), 2) := by decide +kernel
theorem dX5_tensionFor_22 : decode cX5_tensionFor 22 = .ok (.ireturn, 1) := by decide +kernel
theorem dX5_tensionFor_23 : decode cX5_tensionFor 23 = .ok (.aload_n 0, 1) := by decide +kernel
theorem dX5_tensionFor_24 : decode cX5_tensionFor 24 = .ok (.iload_n 1, 1) := by decide +kernel
theorem dX5_tensionFor_25 : decode cX5_tensionFor 25 = .ok (.iload_n 2, 1) := by decide +kernel
theorem dX5_tensionFor_26 : decode cX5_tensionFor 26 = .ok (.invokevirtual 106, 3) := by decide +kernel
theorem dX5_tensionFor_29 : decode cX5_tensionFor 29 = .ok (.lstore_n 3, 1) := by decide +kernel
theorem dX5_tensionFor_30 : decode cX5_tensionFor 30 = .ok (.lload_n 3, 1) := by decide +kernel
theorem dX5_tensionFor_31 : decode cX5_tensionFor 31 = .ok (.ldc2_w 110, 3) := by decide +kernel
theorem dX5_tensionFor_34 : decode cX5_tensionFor 34 = .ok (.lcmp, 1) := by decide +kernel
theorem dX5_tensionFor_35 : decode cX5_tensionFor 35 = .ok (.ifCond .le 8, 3) := by decide +kernel
theorem dX5_tensionFor_38 : decode cX5_tensionFor 38 = .ok (.bipush (-6), 2) := by decide +kernel
theorem dX5_tensionFor_40 : decode cX5_tensionFor 40 = .ok (.goto 5, 3) := by decide +kernel
theorem dX5_tensionFor_43 : decode cX5_tensionFor 43 = .ok (.lload_n 3, 1) := by decide +kernel
theorem dX5_tensionFor_44 : decode cX5_tensionFor 44 = .ok (.l2i, 1) := by decide +kernel
theorem dX5_tensionFor_45 : decode cX5_tensionFor 45 = .ok (.ireturn, 1) := by decide +kernel
theorem dX5_fallen_0 : decode cX5_fallen 0 = .ok (.aload_n 0, 1) := by decide +kernel
theorem dX5_fallen_1 : decode cX5_fallen 1 = .ok (.iconst 0, 1) := by decide +kernel
theorem dX5_fallen_2 : decode cX5_fallen 2 = .ok (.invokevirtual 61, 3) := by decide +kernel
theorem dX5_fallen_5 : decode cX5_fallen 5 = .ok (.istore_n 2, 1) := by decide +kernel
theorem dX5_fallen_6 : decode cX5_fallen 6 = .ok (.aload_n 0, 1) := by decide +kernel
theorem dX5_fallen_7 : decode cX5_fallen 7 = .ok (.invokevirtual 137, 3) := by decide +kernel
theorem dX5_fallen_10 : decode cX5_fallen 10 = .ok (.aload_n 0, 1) := by decide +kernel
theorem dX5_fallen_11 : decode cX5_fallen 11 = .ok (.iload_n 1, 1) := by decide +kernel
theorem dX5_fallen_12 : decode cX5_fallen 12 = .ok (.invokevirtual 81, 3) := by decide +kernel
theorem dX5_fallen_15 : decode cX5_fallen 15 = .ok (.aload_n 0, 1) := by decide +kernel
theorem dX5_fallen_16 : decode cX5_fallen 16 = .ok (.invokevirtual 91, 3) := by decide +kernel
theorem dX5_fallen_19 : decode cX5_fallen 19 = .ok (.pop, 1) := by decide +kernel
theorem dX5_fallen_20 : decode cX5_fallen 20 = .ok (.iload_n 2, 1) := by decide +kernel
theorem dX5_fallen_21 : decode cX5_fallen 21 = .ok (.aload_n 0, 1) := by decide +kernel
theorem dX5_fallen_22 : decode cX5_fallen 22 = .ok (.iconst 0, 1) := by decide +kernel
theorem dX5_fallen_23 : decode cX5_fallen 23 = .ok (.invokevirtual 61, 3) := by decide +kernel
theorem dX5_fallen_26 : decode cX5_fallen 26 = .ok (.iconst (-1), 1) := by decide +kernel
theorem dX5_fallen_27 : decode cX5_fallen 27 = .ok (.ixor, 1) := by decide +kernel
theorem dX5_fallen_28 : decode cX5_fallen 28 = .ok (.iand, 1) := by decide +kernel
theorem dX5_fallen_29 : decode cX5_fallen 29 = .ok (.istore_n 3, 1) := by decide +kernel
theorem dX5_fallen_30 : decode cX5_fallen 30 = .ok (.aload_n 0, 1) := by decide +kernel
theorem dX5_fallen_31 : decode cX5_fallen 31 = .ok (.invokevirtual 140, 3) := by decide +kernel
theorem dX5_fallen_34 : decode cX5_fallen 34 = .ok (.iload_n 3, 1) := by decide +kernel
theorem dX5_fallen_35 : decode cX5_fallen 35 = .ok (.ireturn, 1) := by decide +kernel
theorem dX5_fallsWith_0 : decode cX5_fallsWith 0 = .ok (.aload_n 0, 1) := by decide +kernel
theorem dX5_fallsWith_1 : decode cX5_fallsWith 1 = .ok (.iload_n 1, 1) := by decide +kernel
theorem dX5_fallsWith_2 : decode cX5_fallsWith 2 = .ok (.invokevirtual 112, 3) := by decide +kernel
theorem dX5_fallsWith_5 : decode cX5_fallsWith 5 = .ok (.ifCond .ne 5, 3) := by decide +kernel
theorem dX5_fallsWith_8 : decode cX5_fallsWith 8 = .ok (.iconst (-1), 1) := by decide +kernel
theorem dX5_fallsWith_9 : decode cX5_fallsWith 9 = .ok (.ireturn, 1) := by decide +kernel
theorem dX5_fallsWith_10 : decode cX5_fallsWith 10 = .ok (.aload_n 0, 1) := by decide +kernel
theorem dX5_fallsWith_11 : decode cX5_fallsWith 11 = .ok (.iload_n 1, 1) := by decide +kernel
theorem dX5_fallsWith_12 : decode cX5_fallsWith 12 = .ok (.invokevirtual 69, 3) := by decide +kernel
theorem dX5_fallsWith_15 : decode cX5_fallsWith 15 = .ok (.ifCond .eq 11, 3) := by decide +kernel
theorem dX5_fallsWith_18 : decode cX5_fallsWith 18 = .ok (.aload_n 0, 1) := by decide +kernel
theorem dX5_fallsWith_19 : decode cX5_fallsWith 19 = .ok (.iload_n 1, 1) := by decide +kernel
theorem dX5_fallsWith_20 : decode cX5_fallsWith 20 = .ok (.invokevirtual 143, 3) := by decide +kernel
theorem dX5_fallsWith_23 : decode cX5_fallsWith 23 = .ok (.goto 5, 3) := by decide +kernel
theorem dX5_fallsWith_26 : decode cX5_fallsWith 26 = .ok (.bipush (-5), 2) := by decide +kernel
theorem dX5_fallsWith_28 : decode cX5_fallsWith 28 = .ok (.ireturn, 1) := by decide +kernel
theorem dX5_mostAt_0 : decode cX5_mostAt 0 = .ok (.iload_n 1, 1) := by decide +kernel
theorem dX5_mostAt_1 : decode cX5_mostAt 1 = .ok (.iconst 0, 1) := by decide +kernel
theorem dX5_mostAt_2 : decode cX5_mostAt 2 = .ok (.bipush 19, 2) := by decide +kernel
theorem dX5_mostAt_4 : decode cX5_mostAt 4 = .ok (.invokestatic 43, 3) := by decide +kernel
theorem dX5_mostAt_7 : decode cX5_mostAt 7 = .ok (.ifCond .ne 5, 3) := by decide +kernel
theorem dX5_mostAt_10 : decode cX5_mostAt 10 = .ok (.iconst (-1), 1) := by decide +kernel
theorem dX5_mostAt_11 : decode cX5_mostAt 11 = .ok (.ireturn, 1) := by decide +kernel
theorem dX5_mostAt_12 : decode cX5_mostAt 12 = .ok (.aload_n 0, 1) := by decide +kernel
theorem dX5_mostAt_13 : decode cX5_mostAt 13 = .ok (.getfield 7, 3) := by decide +kernel
theorem dX5_mostAt_16 : decode cX5_mostAt 16 = .ok (.bipush 10, 2) := by decide +kernel
theorem dX5_mostAt_18 : decode cX5_mostAt 18 = .ok (.iload_n 1, 1) := by decide +kernel
theorem dX5_mostAt_19 : decode cX5_mostAt 19 = .ok (.iadd, 1) := by decide +kernel
theorem dX5_mostAt_20 : decode cX5_mostAt 20 = .ok (.iaload, 1) := by decide +kernel
theorem dX5_mostAt_21 : decode cX5_mostAt 21 = .ok (.istore_n 2, 1) := by decide +kernel
theorem dX5_mostAt_22 : decode cX5_mostAt 22 = .ok (.sipush 1000, 3) := by decide +kernel
theorem dX5_mostAt_25 : decode cX5_mostAt 25 = .ok (.istore_n 3, 1) := by decide +kernel
theorem dX5_mostAt_26 : decode cX5_mostAt 26 = .ok (.aload_n 0, 1) := by decide +kernel
theorem dX5_mostAt_27 : decode cX5_mostAt 27 = .ok (.getfield 7, 3) := by decide +kernel
theorem dX5_mostAt_30 : decode cX5_mostAt 30 = .ok (.bipush 10, 2) := by decide +kernel
theorem dX5_mostAt_32 : decode cX5_mostAt 32 = .ok (.iload_n 1, 1) := by decide +kernel
theorem dX5_mostAt_33 : decode cX5_mostAt 33 = .ok (.iadd, 1) := by decide +kernel
theorem dX5_mostAt_34 : decode cX5_mostAt 34 = .ok (.iload_n 3, 1) := by decide +kernel
theorem dX5_mostAt_35 : decode cX5_mostAt 35 = .ok (.iastore, 1) := by decide +kernel
theorem dX5_mostAt_36 : decode cX5_mostAt 36 = .ok (.iload_n 3, 1) := by decide +kernel
theorem dX5_mostAt_37 : decode cX5_mostAt 37 = .ok (.ifCond .lt 26, 3) := by decide +kernel
theorem dX5_mostAt_40 : decode cX5_mostAt 40 = .ok (.aload_n 0, 1) := by decide +kernel
theorem dX5_mostAt_41 : decode cX5_mostAt 41 = .ok (.invokevirtual 77, 3) := by decide +kernel
theorem dX5_mostAt_44 : decode cX5_mostAt 44 = .ok (.ifCond .lt 19, 3) := by decide +kernel
theorem dX5_mostAt_47 : decode cX5_mostAt 47 = .ok (.iinc 3 (-1), 3) := by decide +kernel
theorem dX5_mostAt_50 : decode cX5_mostAt 50 = .ok (.aload_n 0, 1) := by decide +kernel
theorem dX5_mostAt_51 : decode cX5_mostAt 51 = .ok (.getfield 7, 3) := by decide +kernel
theorem dX5_mostAt_54 : decode cX5_mostAt 54 = .ok (.bipush 10, 2) := by decide +kernel
theorem dX5_mostAt_56 : decode cX5_mostAt 56 = .ok (.iload_n 1, 1) := by decide +kernel
theorem dX5_mostAt_57 : decode cX5_mostAt 57 = .ok (.iadd, 1) := by decide +kernel
theorem dX5_mostAt_58 : decode cX5_mostAt 58 = .ok (.iload_n 3, 1) := by decide +kernel
theorem dX5_mostAt_59 : decode cX5_mostAt 59 = .ok (.iastore, 1) := by decide +kernel
theorem dX5_mostAt_60 : decode cX5_mostAt 60 = .ok (.goto (-24), 3) := by decide +kernel
theorem dX5_mostAt_63 : decode cX5_mostAt 63 = .ok (.aload_n 0, 1) := by decide +kernel
theorem dX5_mostAt_64 : decode cX5_mostAt 64 = .ok (.getfield 7, 3) := by decide +kernel
theorem dX5_mostAt_67 : decode cX5_mostAt 67 = .ok (.bipush 10, 2) := by decide +kernel
theorem dX5_mostAt_69 : decode cX5_mostAt 69 = .ok (.iload_n 1, 1) := by decide +kernel
theorem dX5_mostAt_70 : decode cX5_mostAt 70 = .ok (.iadd, 1) := by decide +kernel
theorem dX5_mostAt_71 : decode cX5_mostAt 71 = .ok (.iload_n 2, 1) := by decide +kernel
theorem dX5_mostAt_72 : decode cX5_mostAt 72 = .ok (.iastore, 1) := by decide +kernel
theorem dX5_mostAt_73 : decode cX5_mostAt 73 = .ok (.iload_n 3, 1) := by decide +kernel
theorem dX5_mostAt_74 : decode cX5_mostAt 74 = .ok (.ifCond .ge 8, 3) := by decide +kernel
theorem dX5_mostAt_77 : decode cX5_mostAt 77 = .ok (.bipush (-6), 2) := by decide +kernel
theorem dX5_mostAt_79 : decode cX5_mostAt 79 = .ok (.goto 4, 3) := by decide +kernel
theorem dX5_mostAt_82 : decode cX5_mostAt 82 = .ok (.iload_n 3, 1) := by decide +kernel
theorem dX5_mostAt_83 : decode cX5_mostAt 83 = .ok (.ireturn, 1) := by decide +kernel
theorem dX5_slackIn_0 : decode cX5_slackIn 0 = .ok (.aload_n 0, 1) := by decide +kernel
theorem dX5_slackIn_1 : decode cX5_slackIn 1 = .ok (.iload_n 1, 1) := by decide +kernel
theorem dX5_slackIn_2 : decode cX5_slackIn 2 = .ok (.invokevirtual 112, 3) := by decide +kernel
theorem dX5_slackIn_5 : decode cX5_slackIn 5 = .ok (.ifCond .ne 5, 3) := by decide +kernel
theorem dX5_slackIn_8 : decode cX5_slackIn 8 = .ok (.iconst (-1), 1) := by decide +kernel
theorem dX5_slackIn_9 : decode cX5_slackIn 9 = .ok (.ireturn, 1) := by decide +kernel
theorem dX5_slackIn_10 : decode cX5_slackIn 10 = .ok (.aload_n 0, 1) := by decide +kernel
theorem dX5_slackIn_11 : decode cX5_slackIn 11 = .ok (.invokevirtual 137, 3) := by decide +kernel
theorem dX5_slackIn_14 : decode cX5_slackIn 14 = .ok (.iconst 0, 1) := by decide +kernel
theorem dX5_slackIn_15 : decode cX5_slackIn 15 = .ok (.istore_n 2, 1) := by decide +kernel
theorem dX5_slackIn_16 : decode cX5_slackIn 16 = .ok (.aload_n 0, 1) := by decide +kernel
theorem dX5_slackIn_17 : decode cX5_slackIn 17 = .ok (.aload_n 0, 1) := by decide +kernel
theorem dX5_slackIn_18 : decode cX5_slackIn 18 = .ok (.iconst 0, 1) := by decide +kernel
theorem dX5_slackIn_19 : decode cX5_slackIn 19 = .ok (.invokevirtual 61, 3) := by decide +kernel
theorem dX5_slackIn_22 : decode cX5_slackIn 22 = .ok (.invokevirtual 65, 3) := by decide +kernel
theorem dX5_slackIn_25 : decode cX5_slackIn 25 = .ok (.iload_n 2, 1) := by decide +kernel
theorem dX5_slackIn_26 : decode cX5_slackIn 26 = .ok (.sipush 300, 3) := by decide +kernel
theorem dX5_slackIn_29 : decode cX5_slackIn 29 = .ok (.if_icmp .ge 39, 3) := by decide +kernel
theorem dX5_slackIn_32 : decode cX5_slackIn 32 = .ok (.aload_n 0, 1) := by decide +kernel
theorem dX5_slackIn_33 : decode cX5_slackIn 33 = .ok (.iload_n 1, 1) := by decide +kernel
theorem dX5_slackIn_34 : decode cX5_slackIn 34 = .ok (.invokevirtual 69, 3) := by decide +kernel
theorem dX5_slackIn_37 : decode cX5_slackIn 37 = .ok (.ifCond .eq 31, 3) := by decide +kernel
theorem dX5_slackIn_40 : decode cX5_slackIn 40 = .ok (.aload_n 0, 1) := by decide +kernel
theorem dX5_slackIn_41 : decode cX5_slackIn 41 = .ok (.iload_n 1, 1) := by decide +kernel
theorem dX5_slackIn_42 : decode cX5_slackIn 42 = .ok (.invokevirtual 115, 3) := by decide +kernel
theorem dX5_slackIn_45 : decode cX5_slackIn 45 = .ok (.ifCond .ne 23, 3) := by decide +kernel
theorem dX5_slackIn_48 : decode cX5_slackIn 48 = .ok (.aload_n 0, 1) := by decide +kernel
theorem dX5_slackIn_49 : decode cX5_slackIn 49 = .ok (.invokevirtual 97, 3) := by decide +kernel
theorem dX5_slackIn_52 : decode cX5_slackIn 52 = .ok (.pop, 1) := by decide +kernel
theorem dX5_slackIn_53 : decode cX5_slackIn 53 = .ok (.iinc 2 1, 3) := by decide +kernel
theorem dX5_slackIn_56 : decode cX5_slackIn 56 = .ok (.aload_n 0, 1) := by decide +kernel
theorem dX5_slackIn_57 : decode cX5_slackIn 57 = .ok (.aload_n 0, 1) := by decide +kernel
theorem dX5_slackIn_58 : decode cX5_slackIn 58 = .ok (.iconst 0, 1) := by decide +kernel
theorem dX5_slackIn_59 : decode cX5_slackIn 59 = .ok (.invokevirtual 61, 3) := by decide +kernel
theorem dX5_slackIn_62 : decode cX5_slackIn 62 = .ok (.invokevirtual 65, 3) := by decide +kernel
theorem dX5_slackIn_65 : decode cX5_slackIn 65 = .ok (.goto (-40), 3) := by decide +kernel
theorem dX5_slackIn_68 : decode cX5_slackIn 68 = .ok (.aload_n 0, 1) := by decide +kernel
theorem dX5_slackIn_69 : decode cX5_slackIn 69 = .ok (.iload_n 1, 1) := by decide +kernel
theorem dX5_slackIn_70 : decode cX5_slackIn 70 = .ok (.invokevirtual 115, 3) := by decide +kernel
theorem dX5_slackIn_73 : decode cX5_slackIn 73 = .ok (.ifCond .eq 7, 3) := by decide +kernel
theorem dX5_slackIn_76 : decode cX5_slackIn 76 = .ok (.iload_n 2, 1) := by decide +kernel
theorem dX5_slackIn_77 : decode cX5_slackIn 77 = .ok (.goto 5, 3) := by decide +kernel
theorem dX5_slackIn_80 : decode cX5_slackIn 80 = .ok (.bipush (-6), 2) := by decide +kernel
theorem dX5_slackIn_82 : decode cX5_slackIn 82 = .ok (.istore_n 3, 1) := by decide +kernel
theorem dX5_slackIn_83 : decode cX5_slackIn 83 = .ok (.aload_n 0, 1) := by decide +kernel
theorem dX5_slackIn_84 : decode cX5_slackIn 84 = .ok (.invokevirtual 140, 3) := by decide +kernel
theorem dX5_slackIn_87 : decode cX5_slackIn 87 = .ok (.iload_n 3, 1) := by decide +kernel
theorem dX5_slackIn_88 : decode cX5_slackIn 88 = .ok (.ireturn, 1) := by decide +kernel
theorem dX5_round_0 : decode cX5_round 0 = .ok (.aload_n 0, 1) := by decide +kernel
theorem dX5_round_1 : decode cX5_round 1 = .ok (.aload_n 0, 1) := by decide +kernel
theorem dX5_round_2 : decode cX5_round 2 = .ok (.iconst 1, 1) := by decide +kernel
theorem dX5_round_3 : decode cX5_round 3 = .ok (.invokevirtual 61, 3) := by decide +kernel
theorem dX5_round_6 : decode cX5_round 6 = .ok (.invokevirtual 65, 3) := by decide +kernel
theorem dX5_round_9 : decode cX5_round 9 = .ok (.iconst 0, 1) := by decide +kernel
theorem dX5_round_10 : decode cX5_round 10 = .ok (.istore_n 1, 1) := by decide +kernel
theorem dX5_round_11 : decode cX5_round 11 = .ok (.iconst 0, 1) := by decide +kernel
theorem dX5_round_12 : decode cX5_round 12 = .ok (.istore_n 2, 1) := by decide +kernel
theorem dX5_round_13 : decode cX5_round 13 = .ok (.iconst 0, 1) := by decide +kernel
theorem dX5_round_14 : decode cX5_round 14 = .ok (.istore_n 3, 1) := by decide +kernel
theorem dX5_round_15 : decode cX5_round 15 = .ok (.iload_n 3, 1) := by decide +kernel
theorem dX5_round_16 : decode cX5_round 16 = .ok (.aload_n 0, 1) := by decide +kernel
theorem dX5_round_17 : decode cX5_round 17 = .ok (.getfield 7, 3) := by decide +kernel
theorem dX5_round_20 : decode cX5_round 20 = .ok (.iconst 3, 1) := by decide +kernel
theorem dX5_round_21 : decode cX5_round 21 = .ok (.iaload, 1) := by decide +kernel
theorem dX5_round_22 : decode cX5_round 22 = .ok (.if_icmp .ge 78, 3) := by decide +kernel
theorem dX5_round_25 : decode cX5_round 25 = .ok (.aload_n 0, 1) := by decide +kernel
theorem dX5_round_26 : decode cX5_round 26 = .ok (.iload_n 3, 1) := by decide +kernel
theorem dX5_round_27 : decode cX5_round 27 = .ok (.bipush 10, 2) := by decide +kernel
theorem dX5_round_29 : decode cX5_round 29 = .ok (.invokevirtual 47, 3) := by decide +kernel
theorem dX5_round_32 : decode cX5_round 32 = .ok (.ifCond .ne 62, 3) := by decide +kernel
theorem dX5_round_35 : decode cX5_round 35 = .ok (.aload_n 0, 1) := by decide +kernel
theorem dX5_round_36 : decode cX5_round 36 = .ok (.iload_n 3, 1) := by decide +kernel
theorem dX5_round_37 : decode cX5_round 37 = .ok (.invokevirtual 121, 3) := by decide +kernel
theorem dX5_round_40 : decode cX5_round 40 = .ok (.ifCond .ne 11, 3) := by decide +kernel
theorem dX5_round_43 : decode cX5_round 43 = .ok (.aload_n 0, 1) := by decide +kernel
theorem dX5_round_44 : decode cX5_round 44 = .ok (.iload_n 3, 1) := by decide +kernel
theorem dX5_round_45 : decode cX5_round 45 = .ok (.invokevirtual 124, 3) := by decide +kernel
theorem dX5_round_48 : decode cX5_round 48 = .ok (.ifCond .eq 46, 3) := by decide +kernel
theorem dX5_round_51 : decode cX5_round 51 = .ok (.aload_n 0, 1) := by decide +kernel
theorem dX5_round_52 : decode cX5_round 52 = .ok (.iload_n 3, 1) := by decide +kernel
theorem dX5_round_53 : decode cX5_round 53 = .ok (.iconst 0, 1) := by decide +kernel
theorem dX5_round_54 : decode cX5_round 54 = .ok (.invokevirtual 47, 3) := by decide +kernel
theorem dX5_round_57 : decode cX5_round 57 = .ok (.aload_n 0, 1) := by decide +kernel
theorem dX5_round_58 : decode cX5_round 58 = .ok (.getfield 7, 3) := by decide +kernel
theorem dX5_round_61 : decode cX5_round 61 = .ok (.iconst 4, 1) := by decide +kernel
theorem dX5_round_62 : decode cX5_round 62 = .ok (.iaload, 1) := by decide +kernel
theorem dX5_round_63 : decode cX5_round 63 = .ok (.isub, 1) := by decide +kernel
theorem dX5_round_64 : decode cX5_round 64 = .ok (.istore 4, 2) := by decide +kernel
theorem dX5_round_66 : decode cX5_round 66 = .ok (.iload 4, 2) := by decide +kernel
theorem dX5_round_68 : decode cX5_round 68 = .ok (.ineg, 1) := by decide +kernel
theorem dX5_round_69 : decode cX5_round 69 = .ok (.iload_n 1, 1) := by decide +kernel
theorem dX5_round_70 : decode cX5_round 70 = .ok (.if_icmp .le 9, 3) := by decide +kernel
theorem dX5_round_73 : decode cX5_round 73 = .ok (.iload 4, 2) := by decide +kernel
theorem dX5_round_75 : decode cX5_round 75 = .ok (.ineg, 1) := by decide +kernel
theorem dX5_round_76 : decode cX5_round 76 = .ok (.goto 4, 3) := by decide +kernel
theorem dX5_round_79 : decode cX5_round 79 = .ok (.iload_n 1, 1) := by decide +kernel
theorem dX5_round_80 : decode cX5_round 80 = .ok (.istore_n 1, 1) := by decide +kernel
theorem dX5_round_81 : decode cX5_round 81 = .ok (.iload 4, 2) := by decide +kernel
theorem dX5_round_83 : decode cX5_round 83 = .ok (.iload_n 2, 1) := by decide +kernel
theorem dX5_round_84 : decode cX5_round 84 = .ok (.if_icmp .le 8, 3) := by decide +kernel
theorem dX5_round_87 : decode cX5_round 87 = .ok (.iload 4, 2) := by decide +kernel
theorem dX5_round_89 : decode cX5_round 89 = .ok (.goto 4, 3) := by decide +kernel
theorem dX5_round_92 : decode cX5_round 92 = .ok (.iload_n 2, 1) := by decide +kernel
theorem dX5_round_93 : decode cX5_round 93 = .ok (.istore_n 2, 1) := by decide +kernel
theorem dX5_round_94 : decode cX5_round 94 = .ok (.iinc 3 1, 3) := by decide +kernel
theorem dX5_round_97 : decode cX5_round 97 = .ok (.goto (-82), 3) := by decide +kernel
theorem dX5_round_100 : decode cX5_round 100 = .ok (.iload_n 1, 1) := by decide +kernel
theorem dX5_round_101 : decode cX5_round 101 = .ok (.iload_n 2, 1) := by decide +kernel
theorem dX5_round_102 : decode cX5_round 102 = .ok (.iadd, 1) := by decide +kernel
theorem dX5_round_103 : decode cX5_round 103 = .ok (.iload_n 1, 1) := by decide +kernel
theorem dX5_round_104 : decode cX5_round 104 = .ok (.iload_n 2, 1) := by decide +kernel
theorem dX5_round_105 : decode cX5_round 105 = .ok (.if_icmp .ge 7, 3) := by decide +kernel
theorem dX5_round_108 : decode cX5_round 108 = .ok (.iload_n 1, 1) := by decide +kernel
theorem dX5_round_109 : decode cX5_round 109 = .ok (.goto 4, 3) := by decide +kernel
theorem dX5_round_112 : decode cX5_round 112 = .ok (.iload_n 2, 1) := by decide +kernel
theorem dX5_round_113 : decode cX5_round 113 = .ok (.iadd, 1) := by decide +kernel
theorem dX5_round_114 : decode cX5_round 114 = .ok (.ireturn, 1) := by decide +kernel
theorem dX5_size_0 : decode cX5_size 0 = .ok (.iconst 0, 1) := by decide +kernel
theorem dX5_size_1 : decode cX5_size 1 = .ok (.istore_n 1, 1) := by decide +kernel
theorem dX5_size_2 : decode cX5_size 2 = .ok (.iconst 0, 1) := by decide +kernel
theorem dX5_size_3 : decode cX5_size 3 = .ok (.istore_n 2, 1) := by decide +kernel
theorem dX5_size_4 : decode cX5_size 4 = .ok (.iload_n 2, 1) := by decide +kernel
theorem dX5_size_5 : decode cX5_size 5 = .ok (.bipush 8, 2) := by decide +kernel
theorem dX5_size_7 : decode cX5_size 7 = .ok (.if_icmp .ge 17, 3) := by decide +kernel
theorem dX5_size_10 : decode cX5_size 10 = .ok (.iload_n 1, 1) := by decide +kernel
theorem dX5_size_11 : decode cX5_size 11 = .ok (.iload_n 0, 1) := by decide +kernel
theorem dX5_size_12 : decode cX5_size 12 = .ok (.iload_n 2, 1) := by decide +kernel
theorem dX5_size_13 : decode cX5_size 13 = .ok (.ishr, 1) := by decide +kernel
theorem dX5_size_14 : decode cX5_size 14 = .ok (.iconst 1, 1) := by decide +kernel
theorem dX5_size_15 : decode cX5_size 15 = .ok (.iand, 1) := by decide +kernel
theorem dX5_size_16 : decode cX5_size 16 = .ok (.iadd, 1) := by decide +kernel
theorem dX5_size_17 : decode cX5_size 17 = .ok (.istore_n 1, 1) := by decide +kernel
theorem dX5_size_18 : decode cX5_size 18 = .ok (.iinc 2 1, 3) := by decide +kernel
theorem dX5_size_21 : decode cX5_size 21 = .ok (.goto (-17), 3) := by decide +kernel
theorem dX5_size_24 : decode cX5_size 24 = .ok (.iload_n 1, 1) := by decide +kernel
theorem dX5_size_25 : decode cX5_size 25 = .ok (.ireturn, 1) := by decide +kernel
theorem dX5_weakest_0 : decode cX5_weakest 0 = .ok (.iload_n 1, 1) := by decide +kernel
theorem dX5_weakest_1 : decode cX5_weakest 1 = .ok (.iconst 0, 1) := by decide +kernel
theorem dX5_weakest_2 : decode cX5_weakest 2 = .ok (.iconst 1, 1) := by decide +kernel
theorem dX5_weakest_3 : decode cX5_weakest 3 = .ok (.invokestatic 43, 3) := by decide +kernel
theorem dX5_weakest_6 : decode cX5_weakest 6 = .ok (.ifCond .ne 6, 3) := by decide +kernel
theorem dX5_weakest_9 : decode cX5_weakest 9 = .ok (.bipush (-2), 2) := by decide +kernel
theorem dX5_weakest_11 : decode cX5_weakest 11 = .ok (.ireturn, 1) := by decide +kernel
theorem dX5_weakest_12 : decode cX5_weakest 12 = .ok (.bipush (-6), 2) := by decide +kernel
theorem dX5_weakest_14 : decode cX5_weakest 14 = .ok (.istore_n 2, 1) := by decide +kernel
theorem dX5_weakest_15 : decode cX5_weakest 15 = .ok (.iconst 0, 1) := by decide +kernel
theorem dX5_weakest_16 : decode cX5_weakest 16 = .ok (.istore_n 3, 1) := by decide +kernel
theorem dX5_weakest_17 : decode cX5_weakest 17 = .ok (.iconst 0, 1) := by decide +kernel
theorem dX5_weakest_18 : decode cX5_weakest 18 = .ok (.istore 4, 2) := by decide +kernel
theorem dX5_weakest_20 : decode cX5_weakest 20 = .ok (.iload 4, 2) := by decide +kernel
theorem dX5_weakest_22 : decode cX5_weakest 22 = .ok (.aload_n 0, 1) := by decide +kernel
theorem dX5_weakest_23 : decode cX5_weakest 23 = .ok (.getfield 7, 3) := by decide +kernel
theorem dX5_weakest_26 : decode cX5_weakest 26 = .ok (.iconst 3, 1) := by decide +kernel
theorem dX5_weakest_27 : decode cX5_weakest 27 = .ok (.iaload, 1) := by decide +kernel
theorem dX5_weakest_28 : decode cX5_weakest 28 = .ok (.if_icmp .ge 45, 3) := by decide +kernel
theorem dX5_weakest_31 : decode cX5_weakest 31 = .ok (.aload_n 0, 1) := by decide +kernel
theorem dX5_weakest_32 : decode cX5_weakest 32 = .ok (.iload 4, 2) := by decide +kernel
theorem dX5_weakest_34 : decode cX5_weakest 34 = .ok (.invokevirtual 69, 3) := by decide +kernel
theorem dX5_weakest_37 : decode cX5_weakest 37 = .ok (.ifCond .eq 15, 3) := by decide +kernel
theorem dX5_weakest_40 : decode cX5_weakest 40 = .ok (.aload_n 0, 1) := by decide +kernel
theorem dX5_weakest_41 : decode cX5_weakest 41 = .ok (.iload 4, 2) := by decide +kernel
theorem dX5_weakest_43 : decode cX5_weakest 43 = .ok (.invokevirtual 143, 3) := by decide +kernel
theorem dX5_weakest_46 : decode cX5_weakest 46 = .ok (.invokestatic 146, 3) := by decide +kernel
theorem dX5_weakest_49 : decode cX5_weakest 49 = .ok (.goto 4, 3) := by decide +kernel
theorem dX5_weakest_52 : decode cX5_weakest 52 = .ok (.iconst 0, 1) := by decide +kernel
theorem dX5_weakest_53 : decode cX5_weakest 53 = .ok (.istore 5, 2) := by decide +kernel
theorem dX5_weakest_55 : decode cX5_weakest 55 = .ok (.iload 5, 2) := by decide +kernel
theorem dX5_weakest_57 : decode cX5_weakest 57 = .ok (.iload_n 3, 1) := by decide +kernel
theorem dX5_weakest_58 : decode cX5_weakest 58 = .ok (.if_icmp .le 9, 3) := by decide +kernel
theorem dX5_weakest_61 : decode cX5_weakest 61 = .ok (.iload 4, 2) := by decide +kernel
theorem dX5_weakest_63 : decode cX5_weakest 63 = .ok (.istore_n 2, 1) := by decide +kernel
theorem dX5_weakest_64 : decode cX5_weakest 64 = .ok (.iload 5, 2) := by decide +kernel
theorem dX5_weakest_66 : decode cX5_weakest 66 = .ok (.istore_n 3, 1) := by decide +kernel
theorem dX5_weakest_67 : decode cX5_weakest 67 = .ok (.iinc 4 1, 3) := by decide +kernel
theorem dX5_weakest_70 : decode cX5_weakest 70 = .ok (.goto (-50), 3) := by decide +kernel
theorem dX5_weakest_73 : decode cX5_weakest 73 = .ok (.iload_n 2, 1) := by decide +kernel
theorem dX5_weakest_74 : decode cX5_weakest 74 = .ok (.ifCond .lt 7, 3) := by decide +kernel
theorem dX5_weakest_77 : decode cX5_weakest 77 = .ok (.iload_n 1, 1) := by decide +kernel
theorem dX5_weakest_78 : decode cX5_weakest 78 = .ok (.ifCond .ne 7, 3) := by decide +kernel
theorem dX5_weakest_81 : decode cX5_weakest 81 = .ok (.iload_n 2, 1) := by decide +kernel
theorem dX5_weakest_82 : decode cX5_weakest 82 = .ok (.goto 4, 3) := by decide +kernel
theorem dX5_weakest_85 : decode cX5_weakest 85 = .ok (.iload_n 3, 1) := by decide +kernel
theorem dX5_weakest_86 : decode cX5_weakest 86 = .ok (.ireturn, 1) := by decide +kernel
theorem dX5_sign_0 : decode cX5_sign 0 = .ok (.aload_n 0, 1) := by decide +kernel
theorem dX5_sign_1 : decode cX5_sign 1 = .ok (.getfield 149, 3) := by decide +kernel
theorem dX5_sign_4 : decode cX5_sign 4 = .ok (.aload_n 0, 1) := by decide +kernel
theorem dX5_sign_5 : decode cX5_sign 5 = .ok (.getfield 133, 3) := by decide +kernel
theorem dX5_sign_8 : decode cX5_sign 8 = .ok (.if_icmp .ge 15, 3) := by decide +kernel
theorem dX5_sign_11 : decode cX5_sign 11 = .ok (.aload_n 0, 1) := by decide +kernel
theorem dX5_sign_12 : decode cX5_sign 12 = .ok (.getfield 26, 3) := by decide +kernel
theorem dX5_sign_15 : decode cX5_sign 15 = .ok (.aload_n 0, 1) := by decide +kernel
theorem dX5_sign_16 : decode cX5_sign 16 = .ok (.getfield 149, 3) := by decide +kernel
theorem dX5_sign_19 : decode cX5_sign 19 = .ok (.iaload, 1) := by decide +kernel
theorem dX5_sign_20 : decode cX5_sign 20 = .ok (.goto 4, 3) := by decide +kernel
theorem dX5_sign_23 : decode cX5_sign 23 = .ok (.iconst 0, 1) := by decide +kernel
theorem dX5_sign_24 : decode cX5_sign 24 = .ok (.ireturn, 1) := by decide +kernel
theorem dX5_number_0 : decode cX5_number 0 = .ok (.aload_n 0, 1) := by decide +kernel
theorem dX5_number_1 : decode cX5_number 1 = .ok (.invokevirtual 152, 3) := by decide +kernel
theorem dX5_number_4 : decode cX5_number 4 = .ok (.bipush 48, 2) := by decide +kernel
theorem dX5_number_6 : decode cX5_number 6 = .ok (.isub, 1) := by decide +kernel
theorem dX5_number_7 : decode cX5_number 7 = .ok (.istore_n 1, 1) := by decide +kernel
theorem dX5_number_8 : decode cX5_number 8 = .ok (.aload_n 0, 1) := by decide +kernel
theorem dX5_number_9 : decode cX5_number 9 = .ok (.aload_n 0, 1) := by decide +kernel
theorem dX5_number_10 : decode cX5_number 10 = .ok (.getfield 155, 3) := by decide +kernel
theorem dX5_number_13 : decode cX5_number 13 = .ok (.ifCond .ne 13, 3) := by decide +kernel
theorem dX5_number_16 : decode cX5_number 16 = .ok (.iload_n 1, 1) := by decide +kernel
theorem dX5_number_17 : decode cX5_number 17 = .ok (.iconst 0, 1) := by decide +kernel
theorem dX5_number_18 : decode cX5_number 18 = .ok (.bipush 9, 2) := by decide +kernel
theorem dX5_number_20 : decode cX5_number 20 = .ok (.invokestatic 43, 3) := by decide +kernel
theorem dX5_number_23 : decode cX5_number 23 = .ok (.ifCond .ne 7, 3) := by decide +kernel
theorem dX5_number_26 : decode cX5_number 26 = .ok (.iconst 1, 1) := by decide +kernel
theorem dX5_number_27 : decode cX5_number 27 = .ok (.goto 4, 3) := by decide +kernel
theorem dX5_number_30 : decode cX5_number 30 = .ok (.iconst 0, 1) := by decide +kernel
theorem dX5_number_31 : decode cX5_number 31 = .ok (.putfield 155, 3) := by decide +kernel
theorem dX5_number_34 : decode cX5_number 34 = .ok (.aload_n 0, 1) := by decide +kernel
theorem dX5_number_35 : decode cX5_number 35 = .ok (.dup, 1) := by decide +kernel
theorem dX5_number_36 : decode cX5_number 36 = .ok (.getfield 149, 3) := by decide +kernel
theorem dX5_number_39 : decode cX5_number 39 = .ok (.aload_n 0, 1) := by decide +kernel
theorem dX5_number_40 : decode cX5_number 40 = .ok (.getfield 155, 3) := by decide +kernel
theorem dX5_number_43 : decode cX5_number 43 = .ok (.ifCond .eq 7, 3) := by decide +kernel
theorem dX5_number_46 : decode cX5_number 46 = .ok (.iconst 0, 1) := by decide +kernel
theorem dX5_number_47 : decode cX5_number 47 = .ok (.goto 4, 3) := by decide +kernel
theorem dX5_number_50 : decode cX5_number 50 = .ok (.iconst 1, 1) := by decide +kernel
theorem dX5_number_51 : decode cX5_number 51 = .ok (.iadd, 1) := by decide +kernel
theorem dX5_number_52 : decode cX5_number 52 = .ok (.putfield 149, 3) := by decide +kernel
theorem dX5_number_55 : decode cX5_number 55 = .ok (.aload_n 0, 1) := by decide +kernel
theorem dX5_number_56 : decode cX5_number 56 = .ok (.getfield 155, 3) := by decide +kernel
theorem dX5_number_59 : decode cX5_number 59 = .ok (.ifCond .ne 64, 3) := by decide +kernel
theorem dX5_number_62 : decode cX5_number 62 = .ok (.iload_n 1, 1) := by decide +kernel
theorem dX5_number_63 : decode cX5_number 63 = .ok (.ifCond .le 60, 3) := by decide +kernel
theorem dX5_number_66 : decode cX5_number 66 = .ok (.aload_n 0, 1) := by decide +kernel
theorem dX5_number_67 : decode cX5_number 67 = .ok (.invokevirtual 152, 3) := by decide +kernel
theorem dX5_number_70 : decode cX5_number 70 = .ok (.bipush 48, 2) := by decide +kernel
theorem dX5_number_72 : decode cX5_number 72 = .ok (.bipush 57, 2) := by decide +kernel
theorem dX5_number_74 : decode cX5_number 74 = .ok (.invokestatic 43, 3) := by decide +kernel
theorem dX5_number_77 : decode cX5_number 77 = .ok (.ifCond .eq 46, 3) := by decide +kernel
theorem dX5_number_80 : decode cX5_number 80 = .ok (.bipush 10, 2) := by decide +kernel
theorem dX5_number_82 : decode cX5_number 82 = .ok (.iload_n 1, 1) := by decide +kernel
theorem dX5_number_83 : decode cX5_number 83 = .ok (.imul, 1) := by decide +kernel
theorem dX5_number_84 : decode cX5_number 84 = .ok (.aload_n 0, 1) := by decide +kernel
theorem dX5_number_85 : decode cX5_number 85 = .ok (.invokevirtual 152, 3) := by decide +kernel
theorem dX5_number_88 : decode cX5_number 88 = .ok (.iadd, 1) := by decide +kernel
theorem dX5_number_89 : decode cX5_number 89 = .ok (.bipush 48, 2) := by decide +kernel
theorem dX5_number_91 : decode cX5_number 91 = .ok (.isub, 1) := by decide +kernel
theorem dX5_number_92 : decode cX5_number 92 = .ok (.ldc 158, 2) := by decide +kernel
theorem dX5_number_94 : decode cX5_number 94 = .ok (.if_icmp .gt 29, 3) := by decide +kernel
theorem dX5_number_97 : decode cX5_number 97 = .ok (.bipush 10, 2) := by decide +kernel
theorem dX5_number_99 : decode cX5_number 99 = .ok (.iload_n 1, 1) := by decide +kernel
theorem dX5_number_100 : decode cX5_number 100 = .ok (.imul, 1) := by decide +kernel
theorem dX5_number_101 : decode cX5_number 101 = .ok (.aload_n 0, 1) := by decide +kernel
theorem dX5_number_102 : decode cX5_number 102 = .ok (.invokevirtual 152, 3) := by decide +kernel
theorem dX5_number_105 : decode cX5_number 105 = .ok (.iadd, 1) := by decide +kernel
theorem dX5_number_106 : decode cX5_number 106 = .ok (.bipush 48, 2) := by decide +kernel
theorem dX5_number_108 : decode cX5_number 108 = .ok (.isub, 1) := by decide +kernel
theorem dX5_number_109 : decode cX5_number 109 = .ok (.istore_n 1, 1) := by decide +kernel
theorem dX5_number_110 : decode cX5_number 110 = .ok (.aload_n 0, 1) := by decide +kernel
theorem dX5_number_111 : decode cX5_number 111 = .ok (.dup, 1) := by decide +kernel
theorem dX5_number_112 : decode cX5_number 112 = .ok (.getfield 149, 3) := by decide +kernel
theorem dX5_number_115 : decode cX5_number 115 = .ok (.iconst 1, 1) := by decide +kernel
theorem dX5_number_116 : decode cX5_number 116 = .ok (.iadd, 1) := by decide +kernel
theorem dX5_number_117 : decode cX5_number 117 = .ok (.putfield 149, 3) := by decide +kernel
theorem dX5_number_120 : decode cX5_number 120 = .ok (.goto (-65), 3) := by decide +kernel
theorem dX5_number_123 : decode cX5_number 123 = .ok (.iload_n 1, 1) := by decide +kernel
theorem dX5_number_124 : decode cX5_number 124 = .ok (.ireturn, 1) := by decide +kernel
theorem dX5_readOne_0 : decode cX5_readOne 0 = .ok (.iconst 3, 1) := by decide +kernel
theorem dX5_readOne_1 : decode cX5_readOne 1 = .ok (.aload_n 0, 1) := by decide +kernel
theorem dX5_readOne_2 : decode cX5_readOne 2 = .ok (.getfield 159, 3) := by decide +kernel
theorem dX5_readOne_5 : decode cX5_readOne 5 = .ok (.imul, 1) := by decide +kernel
theorem dX5_readOne_6 : decode cX5_readOne 6 = .ok (.istore_n 1, 1) := by decide +kernel
theorem dX5_readOne_7 : decode cX5_readOne 7 = .ok (.aload_n 0, 1) := by decide +kernel
theorem dX5_readOne_8 : decode cX5_readOne 8 = .ok (.invokevirtual 152, 3) := by decide +kernel
theorem dX5_readOne_11 : decode cX5_readOne 11 = .ok (.istore_n 2, 1) := by decide +kernel
theorem dX5_readOne_12 : decode cX5_readOne 12 = .ok (.aload_n 0, 1) := by decide +kernel
theorem dX5_readOne_13 : decode cX5_readOne 13 = .ok (.getfield 32, 3) := by decide +kernel
theorem dX5_readOne_16 : decode cX5_readOne 16 = .ok (.iload_n 1, 1) := by decide +kernel
theorem dX5_readOne_17 : decode cX5_readOne 17 = .ok (.iload_n 2, 1) := by decide +kernel
theorem dX5_readOne_18 : decode cX5_readOne 18 = .ok (.iastore, 1) := by decide +kernel
theorem dX5_readOne_19 : decode cX5_readOne 19 = .ok (.aload_n 0, 1) := by decide +kernel
theorem dX5_readOne_20 : decode cX5_readOne 20 = .ok (.iload_n 2, 1) := by decide +kernel
theorem dX5_readOne_21 : decode cX5_readOne 21 = .ok (.bipush 103, 2) := by decide +kernel
theorem dX5_readOne_23 : decode cX5_readOne 23 = .ok (.if_icmp .eq 31, 3) := by decide +kernel
theorem dX5_readOne_26 : decode cX5_readOne 26 = .ok (.iload_n 2, 1) := by decide +kernel
theorem dX5_readOne_27 : decode cX5_readOne 27 = .ok (.bipush 104, 2) := by decide +kernel
theorem dX5_readOne_29 : decode cX5_readOne 29 = .ok (.if_icmp .eq 25, 3) := by decide +kernel
theorem dX5_readOne_32 : decode cX5_readOne 32 = .ok (.iload_n 2, 1) := by decide +kernel
theorem dX5_readOne_33 : decode cX5_readOne 33 = .ok (.bipush 116, 2) := by decide +kernel
theorem dX5_readOne_35 : decode cX5_readOne 35 = .ok (.if_icmp .eq 19, 3) := by decide +kernel
theorem dX5_readOne_38 : decode cX5_readOne 38 = .ok (.iload_n 2, 1) := by decide +kernel
theorem dX5_readOne_39 : decode cX5_readOne 39 = .ok (.bipush 112, 2) := by decide +kernel
theorem dX5_readOne_41 : decode cX5_readOne 41 = .ok (.if_icmp .eq 13, 3) := by decide +kernel
theorem dX5_readOne_44 : decode cX5_readOne 44 = .ok (.iload_n 2, 1) := by decide +kernel
theorem dX5_readOne_45 : decode cX5_readOne 45 = .ok (.bipush 100, 2) := by decide +kernel
theorem dX5_readOne_47 : decode cX5_readOne 47 = .ok (.if_icmp .eq 7, 3) := by decide +kernel
theorem dX5_readOne_50 : decode cX5_readOne 50 = .ok (.iconst 1, 1) := by decide +kernel
theorem dX5_readOne_51 : decode cX5_readOne 51 = .ok (.goto 4, 3) := by decide +kernel
theorem dX5_readOne_54 : decode cX5_readOne 54 = .ok (.iconst 0, 1) := by decide +kernel
theorem dX5_readOne_55 : decode cX5_readOne 55 = .ok (.putfield 155, 3) := by decide +kernel
theorem dX5_readOne_58 : decode cX5_readOne 58 = .ok (.aload_n 0, 1) := by decide +kernel
theorem dX5_readOne_59 : decode cX5_readOne 59 = .ok (.getfield 155, 3) := by decide +kernel
theorem dX5_readOne_62 : decode cX5_readOne 62 = .ok (.ifCond .eq 4, 3) := by decide +kernel
theorem dX5_readOne_65 : decode cX5_readOne 65 = .ok (.return_, 1) := by decide +kernel
theorem dX5_readOne_66 : decode cX5_readOne 66 = .ok (.aload_n 0, 1) := by decide +kernel
theorem dX5_readOne_67 : decode cX5_readOne 67 = .ok (.dup, 1) := by decide +kernel
theorem dX5_readOne_68 : decode cX5_readOne 68 = .ok (.getfield 149, 3) := by decide +kernel
theorem dX5_readOne_71 : decode cX5_readOne 71 = .ok (.iconst 1, 1) := by decide +kernel
theorem dX5_readOne_72 : decode cX5_readOne 72 = .ok (.iadd, 1) := by decide +kernel
theorem dX5_readOne_73 : decode cX5_readOne 73 = .ok (.putfield 149, 3) := by decide +kernel
theorem dX5_readOne_76 : decode cX5_readOne 76 = .ok (.aload_n 0, 1) := by decide +kernel
theorem dX5_readOne_77 : decode cX5_readOne 77 = .ok (.getfield 32, 3) := by decide +kernel
theorem dX5_readOne_80 : decode cX5_readOne 80 = .ok (.iload_n 1, 1) := by decide +kernel
theorem dX5_readOne_81 : decode cX5_readOne 81 = .ok (.iconst 1, 1) := by decide +kernel
theorem dX5_readOne_82 : decode cX5_readOne 82 = .ok (.iadd, 1) := by decide +kernel
theorem dX5_readOne_83 : decode cX5_readOne 83 = .ok (.iload_n 2, 1) := by decide +kernel
theorem dX5_readOne_84 : decode cX5_readOne 84 = .ok (.bipush 104, 2) := by decide +kernel
theorem dX5_readOne_86 : decode cX5_readOne 86 = .ok (.if_icmp .ne 7, 3) := by decide +kernel
theorem dX5_readOne_89 : decode cX5_readOne 89 = .ok (.iconst 0, 1) := by decide +kernel
theorem dX5_readOne_90 : decode cX5_readOne 90 = .ok (.goto 7, 3) := by decide +kernel
theorem dX5_readOne_93 : decode cX5_readOne 93 = .ok (.aload_n 0, 1) := by decide +kernel
theorem dX5_readOne_94 : decode cX5_readOne 94 = .ok (.invokevirtual 162, 3) := by decide +kernel
theorem dX5_readOne_97 : decode cX5_readOne 97 = .ok (.iastore, 1) := by decide +kernel
theorem dX5_readOne_98 : decode cX5_readOne 98 = .ok (.iload_n 2, 1) := by decide +kernel
theorem dX5_readOne_99 : decode cX5_readOne 99 = .ok (.bipush 112, 2) := by decide +kernel
theorem dX5_readOne_101 : decode cX5_readOne 101 = .ok (.if_icmp .ne 72, 3) := by decide +kernel
theorem dX5_readOne_104 : decode cX5_readOne 104 = .ok (.aload_n 0, 1) := by decide +kernel
theorem dX5_readOne_105 : decode cX5_readOne 105 = .ok (.getfield 155, 3) := by decide +kernel
theorem dX5_readOne_108 : decode cX5_readOne 108 = .ok (.ifCond .ne 65, 3) := by decide +kernel
theorem dX5_readOne_111 : decode cX5_readOne 111 = .ok (.aload_n 0, 1) := by decide +kernel
theorem dX5_readOne_112 : decode cX5_readOne 112 = .ok (.aload_n 0, 1) := by decide +kernel
theorem dX5_readOne_113 : decode cX5_readOne 113 = .ok (.invokevirtual 152, 3) := by decide +kernel
theorem dX5_readOne_116 : decode cX5_readOne 116 = .ok (.bipush 61, 2) := by decide +kernel
theorem dX5_readOne_118 : decode cX5_readOne 118 = .ok (.if_icmp .eq 7, 3) := by decide +kernel
theorem dX5_readOne_121 : decode cX5_readOne 121 = .ok (.iconst 1, 1) := by decide +kernel
theorem dX5_readOne_122 : decode cX5_readOne 122 = .ok (.goto 4, 3) := by decide +kernel
theorem dX5_readOne_125 : decode cX5_readOne 125 = .ok (.iconst 0, 1) := by decide +kernel
theorem dX5_readOne_126 : decode cX5_readOne 126 = .ok (.putfield 155, 3) := by decide +kernel
theorem dX5_readOne_129 : decode cX5_readOne 129 = .ok (.aload_n 0, 1) := by decide +kernel
theorem dX5_readOne_130 : decode cX5_readOne 130 = .ok (.dup, 1) := by decide +kernel
theorem dX5_readOne_131 : decode cX5_readOne 131 = .ok (.getfield 149, 3) := by decide +kernel
theorem dX5_readOne_134 : decode cX5_readOne 134 = .ok (.aload_n 0, 1) := by decide +kernel
theorem dX5_readOne_135 : decode cX5_readOne 135 = .ok (.getfield 155, 3) := by decide +kernel
theorem dX5_readOne_138 : decode cX5_readOne 138 = .ok (.ifCond .eq 7, 3) := by decide +kernel
theorem dX5_readOne_141 : decode cX5_readOne 141 = .ok (.iconst 0, 1) := by decide +kernel
theorem dX5_readOne_142 : decode cX5_readOne 142 = .ok (.goto 4, 3) := by decide +kernel
theorem dX5_readOne_145 : decode cX5_readOne 145 = .ok (.iconst 1, 1) := by decide +kernel
theorem dX5_readOne_146 : decode cX5_readOne 146 = .ok (.iadd, 1) := by decide +kernel
theorem dX5_readOne_147 : decode cX5_readOne 147 = .ok (.putfield 149, 3) := by decide +kernel
theorem dX5_readOne_150 : decode cX5_readOne 150 = .ok (.aload_n 0, 1) := by decide +kernel
theorem dX5_readOne_151 : decode cX5_readOne 151 = .ok (.getfield 32, 3) := by decide +kernel
theorem dX5_readOne_154 : decode cX5_readOne 154 = .ok (.iload_n 1, 1) := by decide +kernel
theorem dX5_readOne_155 : decode cX5_readOne 155 = .ok (.iconst 2, 1) := by decide +kernel
theorem dX5_readOne_156 : decode cX5_readOne 156 = .ok (.iadd, 1) := by decide +kernel
theorem dX5_readOne_157 : decode cX5_readOne 157 = .ok (.aload_n 0, 1) := by decide +kernel
theorem dX5_readOne_158 : decode cX5_readOne 158 = .ok (.getfield 155, 3) := by decide +kernel
theorem dX5_readOne_161 : decode cX5_readOne 161 = .ok (.ifCond .eq 7, 3) := by decide +kernel
theorem dX5_readOne_164 : decode cX5_readOne 164 = .ok (.iconst 0, 1) := by decide +kernel
theorem dX5_readOne_165 : decode cX5_readOne 165 = .ok (.goto 7, 3) := by decide +kernel
theorem dX5_readOne_168 : decode cX5_readOne 168 = .ok (.aload_n 0, 1) := by decide +kernel
theorem dX5_readOne_169 : decode cX5_readOne 169 = .ok (.invokevirtual 162, 3) := by decide +kernel
theorem dX5_readOne_172 : decode cX5_readOne 172 = .ok (.iastore, 1) := by decide +kernel
theorem dX5_readOne_173 : decode cX5_readOne 173 = .ok (.aload_n 0, 1) := by decide +kernel
theorem dX5_readOne_174 : decode cX5_readOne 174 = .ok (.dup, 1) := by decide +kernel
theorem dX5_readOne_175 : decode cX5_readOne 175 = .ok (.getfield 159, 3) := by decide +kernel
theorem dX5_readOne_178 : decode cX5_readOne 178 = .ok (.iconst 1, 1) := by decide +kernel
theorem dX5_readOne_179 : decode cX5_readOne 179 = .ok (.iadd, 1) := by decide +kernel
theorem dX5_readOne_180 : decode cX5_readOne 180 = .ok (.putfield 159, 3) := by decide +kernel
theorem dX5_readOne_183 : decode cX5_readOne 183 = .ok (.return_, 1) := by decide +kernel
theorem dX5_faultOf_0 : decode cX5_faultOf 0 = .ok (.aload_n 0, 1) := by decide +kernel
theorem dX5_faultOf_1 : decode cX5_faultOf 1 = .ok (.iconst 0, 1) := by decide +kernel
theorem dX5_faultOf_2 : decode cX5_faultOf 2 = .ok (.putfield 149, 3) := by decide +kernel
theorem dX5_faultOf_5 : decode cX5_faultOf 5 = .ok (.aload_n 0, 1) := by decide +kernel
theorem dX5_faultOf_6 : decode cX5_faultOf 6 = .ok (.iconst 0, 1) := by decide +kernel
theorem dX5_faultOf_7 : decode cX5_faultOf 7 = .ok (.putfield 159, 3) := by decide +kernel
theorem dX5_faultOf_10 : decode cX5_faultOf 10 = .ok (.aload_n 0, 1) := by decide +kernel
theorem dX5_faultOf_11 : decode cX5_faultOf 11 = .ok (.iconst 0, 1) := by decide +kernel
theorem dX5_faultOf_12 : decode cX5_faultOf 12 = .ok (.putfield 155, 3) := by decide +kernel
theorem dX5_faultOf_15 : decode cX5_faultOf 15 = .ok (.aload_n 0, 1) := by decide +kernel
theorem dX5_faultOf_16 : decode cX5_faultOf 16 = .ok (.invokevirtual 165, 3) := by decide +kernel
theorem dX5_faultOf_19 : decode cX5_faultOf 19 = .ok (.aload_n 0, 1) := by decide +kernel
theorem dX5_faultOf_20 : decode cX5_faultOf 20 = .ok (.getfield 155, 3) := by decide +kernel
theorem dX5_faultOf_23 : decode cX5_faultOf 23 = .ok (.ifCond .ne 56, 3) := by decide +kernel
theorem dX5_faultOf_26 : decode cX5_faultOf 26 = .ok (.aload_n 0, 1) := by decide +kernel
theorem dX5_faultOf_27 : decode cX5_faultOf 27 = .ok (.getfield 149, 3) := by decide +kernel
theorem dX5_faultOf_30 : decode cX5_faultOf 30 = .ok (.aload_n 0, 1) := by decide +kernel
theorem dX5_faultOf_31 : decode cX5_faultOf 31 = .ok (.getfield 133, 3) := by decide +kernel
theorem dX5_faultOf_34 : decode cX5_faultOf 34 = .ok (.if_icmp .ge 45, 3) := by decide +kernel
theorem dX5_faultOf_37 : decode cX5_faultOf 37 = .ok (.aload_n 0, 1) := by decide +kernel
theorem dX5_faultOf_38 : decode cX5_faultOf 38 = .ok (.aload_n 0, 1) := by decide +kernel
theorem dX5_faultOf_39 : decode cX5_faultOf 39 = .ok (.invokevirtual 152, 3) := by decide +kernel
theorem dX5_faultOf_42 : decode cX5_faultOf 42 = .ok (.bipush 59, 2) := by decide +kernel
theorem dX5_faultOf_44 : decode cX5_faultOf 44 = .ok (.if_icmp .eq 7, 3) := by decide +kernel
theorem dX5_faultOf_47 : decode cX5_faultOf 47 = .ok (.iconst 1, 1) := by decide +kernel
theorem dX5_faultOf_48 : decode cX5_faultOf 48 = .ok (.goto 4, 3) := by decide +kernel
theorem dX5_faultOf_51 : decode cX5_faultOf 51 = .ok (.iconst 0, 1) := by decide +kernel
theorem dX5_faultOf_52 : decode cX5_faultOf 52 = .ok (.putfield 155, 3) := by decide +kernel
theorem dX5_faultOf_55 : decode cX5_faultOf 55 = .ok (.aload_n 0, 1) := by decide +kernel
theorem dX5_faultOf_56 : decode cX5_faultOf 56 = .ok (.getfield 155, 3) := by decide +kernel
theorem dX5_faultOf_59 : decode cX5_faultOf 59 = .ok (.ifCond .ne (-40), 3) := by decide +kernel
theorem dX5_faultOf_62 : decode cX5_faultOf 62 = .ok (.aload_n 0, 1) := by decide +kernel
theorem dX5_faultOf_63 : decode cX5_faultOf 63 = .ok (.dup, 1) := by decide +kernel
theorem dX5_faultOf_64 : decode cX5_faultOf 64 = .ok (.getfield 149, 3) := by decide +kernel
theorem dX5_faultOf_67 : decode cX5_faultOf 67 = .ok (.iconst 1, 1) := by decide +kernel
theorem dX5_faultOf_68 : decode cX5_faultOf 68 = .ok (.iadd, 1) := by decide +kernel
theorem dX5_faultOf_69 : decode cX5_faultOf 69 = .ok (.putfield 149, 3) := by decide +kernel
theorem dX5_faultOf_72 : decode cX5_faultOf 72 = .ok (.aload_n 0, 1) := by decide +kernel
theorem dX5_faultOf_73 : decode cX5_faultOf 73 = .ok (.invokevirtual 165, 3) := by decide +kernel
theorem dX5_faultOf_76 : decode cX5_faultOf 76 = .ok (.goto (-57), 3) := by decide +kernel
theorem dX5_faultOf_79 : decode cX5_faultOf 79 = .ok (.aload_n 0, 1) := by decide +kernel
theorem dX5_faultOf_80 : decode cX5_faultOf 80 = .ok (.getfield 155, 3) := by decide +kernel
theorem dX5_faultOf_83 : decode cX5_faultOf 83 = .ok (.ifCond .eq 10, 3) := by decide +kernel
theorem dX5_faultOf_86 : decode cX5_faultOf 86 = .ok (.aload_n 0, 1) := by decide +kernel
theorem dX5_faultOf_87 : decode cX5_faultOf 87 = .ok (.getfield 149, 3) := by decide +kernel
theorem dX5_faultOf_90 : decode cX5_faultOf 90 = .ok (.goto 5, 3) := by decide +kernel
theorem dX5_faultOf_93 : decode cX5_faultOf 93 = .ok (.bipush (-6), 2) := by decide +kernel
theorem dX5_faultOf_95 : decode cX5_faultOf 95 = .ok (.ireturn, 1) := by decide +kernel
theorem dX5_put_0 : decode cX5_put 0 = .ok (.iconst 0, 1) := by decide +kernel
theorem dX5_put_1 : decode cX5_put 1 = .ok (.istore_n 3, 1) := by decide +kernel
theorem dX5_put_2 : decode cX5_put 2 = .ok (.lload_n 1, 1) := by decide +kernel
theorem dX5_put_3 : decode cX5_put 3 = .ok (.lstore 4, 2) := by decide +kernel
theorem dX5_put_5 : decode cX5_put 5 = .ok (.lload 4, 2) := by decide +kernel
theorem dX5_put_7 : decode cX5_put 7 = .ok (.ldc2_w 168, 3) := by decide +kernel
theorem dX5_put_10 : decode cX5_put 10 = .ok (.land, 1) := by decide +kernel
theorem dX5_put_11 : decode cX5_put 11 = .ok (.lconst 0, 1) := by decide +kernel
theorem dX5_put_12 : decode cX5_put 12 = .ok (.lcmp, 1) := by decide +kernel
theorem dX5_put_13 : decode cX5_put 13 = .ok (.ifCond .eq 36, 3) := by decide +kernel
theorem dX5_put_16 : decode cX5_put 16 = .ok (.lload 4, 2) := by decide +kernel
theorem dX5_put_18 : decode cX5_put 18 = .ok (.ldc2_w 168, 3) := by decide +kernel
theorem dX5_put_21 : decode cX5_put 21 = .ok (.land, 1) := by decide +kernel
theorem dX5_put_22 : decode cX5_put 22 = .ok (.l2i, 1) := by decide +kernel
theorem dX5_put_23 : decode cX5_put 23 = .ok (.bipush 33, 2) := by decide +kernel
theorem dX5_put_25 : decode cX5_put 25 = .ok (.bipush 126, 2) := by decide +kernel
theorem dX5_put_27 : decode cX5_put 27 = .ok (.invokestatic 43, 3) := by decide +kernel
theorem dX5_put_30 : decode cX5_put 30 = .ok (.ifCond .ne 6, 3) := by decide +kernel
theorem dX5_put_33 : decode cX5_put 33 = .ok (.bipush (-2), 2) := by decide +kernel
theorem dX5_put_35 : decode cX5_put 35 = .ok (.ireturn, 1) := by decide +kernel
theorem dX5_put_36 : decode cX5_put 36 = .ok (.iinc 3 1, 3) := by decide +kernel
theorem dX5_put_39 : decode cX5_put 39 = .ok (.lload 4, 2) := by decide +kernel
theorem dX5_put_41 : decode cX5_put 41 = .ok (.bipush 8, 2) := by decide +kernel
theorem dX5_put_43 : decode cX5_put 43 = .ok (.lushr, 1) := by decide +kernel
theorem dX5_put_44 : decode cX5_put 44 = .ok (.lstore 4, 2) := by decide +kernel
theorem dX5_put_46 : decode cX5_put 46 = .ok (.goto (-41), 3) := by decide +kernel
theorem dX5_put_49 : decode cX5_put 49 = .ok (.lload 4, 2) := by decide +kernel
theorem dX5_put_51 : decode cX5_put 51 = .ok (.lconst 0, 1) := by decide +kernel
theorem dX5_put_52 : decode cX5_put 52 = .ok (.lcmp, 1) := by decide +kernel
theorem dX5_put_53 : decode cX5_put 53 = .ok (.ifCond .ne 7, 3) := by decide +kernel
theorem dX5_put_56 : decode cX5_put 56 = .ok (.iload_n 3, 1) := by decide +kernel
theorem dX5_put_57 : decode cX5_put 57 = .ok (.ifCond .ne 6, 3) := by decide +kernel
theorem dX5_put_60 : decode cX5_put 60 = .ok (.bipush (-2), 2) := by decide +kernel
theorem dX5_put_62 : decode cX5_put 62 = .ok (.ireturn, 1) := by decide +kernel
theorem dX5_put_63 : decode cX5_put 63 = .ok (.aload_n 0, 1) := by decide +kernel
theorem dX5_put_64 : decode cX5_put 64 = .ok (.getfield 133, 3) := by decide +kernel
theorem dX5_put_67 : decode cX5_put 67 = .ok (.iload_n 3, 1) := by decide +kernel
theorem dX5_put_68 : decode cX5_put 68 = .ok (.iadd, 1) := by decide +kernel
theorem dX5_put_69 : decode cX5_put 69 = .ok (.bipush 60, 2) := by decide +kernel
theorem dX5_put_71 : decode cX5_put 71 = .ok (.if_icmp .le 6, 3) := by decide +kernel
theorem dX5_put_74 : decode cX5_put 74 = .ok (.bipush (-4), 2) := by decide +kernel
theorem dX5_put_76 : decode cX5_put 76 = .ok (.ireturn, 1) := by decide +kernel
theorem dX5_put_77 : decode cX5_put 77 = .ok (.lload_n 1, 1) := by decide +kernel
theorem dX5_put_78 : decode cX5_put 78 = .ok (.lstore 4, 2) := by decide +kernel
theorem dX5_put_80 : decode cX5_put 80 = .ok (.iload_n 3, 1) := by decide +kernel
theorem dX5_put_81 : decode cX5_put 81 = .ok (.iconst 1, 1) := by decide +kernel
theorem dX5_put_82 : decode cX5_put 82 = .ok (.isub, 1) := by decide +kernel
theorem dX5_put_83 : decode cX5_put 83 = .ok (.istore 6, 2) := by decide +kernel
theorem dX5_put_85 : decode cX5_put 85 = .ok (.iload 6, 2) := by decide +kernel
theorem dX5_put_87 : decode cX5_put 87 = .ok (.ifCond .lt 35, 3) := by decide +kernel
theorem dX5_put_90 : decode cX5_put 90 = .ok (.aload_n 0, 1) := by decide +kernel
theorem dX5_put_91 : decode cX5_put 91 = .ok (.getfield 26, 3) := by decide +kernel
theorem dX5_put_94 : decode cX5_put 94 = .ok (.aload_n 0, 1) := by decide +kernel
theorem dX5_put_95 : decode cX5_put 95 = .ok (.getfield 133, 3) := by decide +kernel
theorem dX5_put_98 : decode cX5_put 98 = .ok (.iload 6, 2) := by decide +kernel
theorem dX5_put_100 : decode cX5_put 100 = .ok (.iadd, 1) := by decide +kernel
theorem dX5_put_101 : decode cX5_put 101 = .ok (.lload 4, 2) := by decide +kernel
theorem dX5_put_103 : decode cX5_put 103 = .ok (.ldc2_w 168, 3) := by decide +kernel
theorem dX5_put_106 : decode cX5_put 106 = .ok (.land, 1) := by decide +kernel
theorem dX5_put_107 : decode cX5_put 107 = .ok (.l2i, 1) := by decide +kernel
theorem dX5_put_108 : decode cX5_put 108 = .ok (.iastore, 1) := by decide +kernel
theorem dX5_put_109 : decode cX5_put 109 = .ok (.lload 4, 2) := by decide +kernel
theorem dX5_put_111 : decode cX5_put 111 = .ok (.bipush 8, 2) := by decide +kernel
theorem dX5_put_113 : decode cX5_put 113 = .ok (.lushr, 1) := by decide +kernel
theorem dX5_put_114 : decode cX5_put 114 = .ok (.lstore 4, 2) := by decide +kernel
theorem dX5_put_116 : decode cX5_put 116 = .ok (.iinc 6 (-1), 3) := by decide +kernel
theorem dX5_put_119 : decode cX5_put 119 = .ok (.goto (-34), 3) := by decide +kernel
theorem dX5_put_122 : decode cX5_put 122 = .ok (.aload_n 0, 1) := by decide +kernel
theorem dX5_put_123 : decode cX5_put 123 = .ok (.dup, 1) := by decide +kernel
theorem dX5_put_124 : decode cX5_put 124 = .ok (.getfield 133, 3) := by decide +kernel
theorem dX5_put_127 : decode cX5_put 127 = .ok (.iload_n 3, 1) := by decide +kernel
theorem dX5_put_128 : decode cX5_put 128 = .ok (.iadd, 1) := by decide +kernel
theorem dX5_put_129 : decode cX5_put 129 = .ok (.putfield 133, 3) := by decide +kernel
theorem dX5_put_132 : decode cX5_put 132 = .ok (.aload_n 0, 1) := by decide +kernel
theorem dX5_put_133 : decode cX5_put 133 = .ok (.getfield 133, 3) := by decide +kernel
theorem dX5_put_136 : decode cX5_put 136 = .ok (.ireturn, 1) := by decide +kernel
theorem dX5_wipe_0 : decode cX5_wipe 0 = .ok (.aload_n 0, 1) := by decide +kernel
theorem dX5_wipe_1 : decode cX5_wipe 1 = .ok (.getfield 133, 3) := by decide +kernel
theorem dX5_wipe_4 : decode cX5_wipe 4 = .ok (.istore_n 1, 1) := by decide +kernel
theorem dX5_wipe_5 : decode cX5_wipe 5 = .ok (.aload_n 0, 1) := by decide +kernel
theorem dX5_wipe_6 : decode cX5_wipe 6 = .ok (.iconst 0, 1) := by decide +kernel
theorem dX5_wipe_7 : decode cX5_wipe 7 = .ok (.putfield 133, 3) := by decide +kernel
theorem dX5_wipe_10 : decode cX5_wipe 10 = .ok (.iload_n 1, 1) := by decide +kernel
theorem dX5_wipe_11 : decode cX5_wipe 11 = .ok (.ireturn, 1) := by decide +kernel
theorem dX5_fault_0 : decode cX5_fault 0 = .ok (.aload_n 0, 1) := by decide +kernel
theorem dX5_fault_1 : decode cX5_fault 1 = .ok (.invokevirtual 170, 3) := by decide +kernel
theorem dX5_fault_4 : decode cX5_fault 4 = .ok (.ireturn, 1) := by decide +kernel
theorem dX5_carry_0 : decode cX5_carry 0 = .ok (.aload_n 0, 1) := by decide +kernel
theorem dX5_carry_1 : decode cX5_carry 1 = .ok (.getfield 32, 3) := by decide +kernel
theorem dX5_carry_4 : decode cX5_carry 4 = .ok (.iload_n 1, 1) := by decide +kernel
theorem dX5_carry_5 : decode cX5_carry 5 = .ok (.iconst 1, 1) := by decide +kernel
theorem dX5_carry_6 : decode cX5_carry 6 = .ok (.iadd, 1) := by decide +kernel
theorem dX5_carry_7 : decode cX5_carry 7 = .ok (.iaload, 1) := by decide +kernel
theorem dX5_carry_8 : decode cX5_carry 8 = .ok (.istore_n 2, 1) := by decide +kernel
theorem dX5_carry_9 : decode cX5_carry 9 = .ok (.aload_n 0, 1) := by decide +kernel
theorem dX5_carry_10 : decode cX5_carry 10 = .ok (.getfield 32, 3) := by decide +kernel
theorem dX5_carry_13 : decode cX5_carry 13 = .ok (.iload_n 1, 1) := by decide +kernel
theorem dX5_carry_14 : decode cX5_carry 14 = .ok (.iaload, 1) := by decide +kernel
theorem dX5_carry_15 : decode cX5_carry 15 = .ok (.lookupswitch 72 #[(103, 41), (104, 47), (112, 58), (116, 52)], 41) := by decide +kernel
theorem dX5_carry_56 : decode cX5_carry 56 = .ok (.aload_n 0, 1) := by decide +kernel
theorem dX5_carry_57 : decode cX5_carry 57 = .ok (.iload_n 2, 1) := by decide +kernel
theorem dX5_carry_58 : decode cX5_carry 58 = .ok (.invokevirtual 173, 3) := by decide +kernel
theorem dX5_carry_61 : decode cX5_carry 61 = .ok (.ireturn, 1) := by decide +kernel
theorem dX5_carry_62 : decode cX5_carry 62 = .ok (.aload_n 0, 1) := by decide +kernel
theorem dX5_carry_63 : decode cX5_carry 63 = .ok (.invokevirtual 176, 3) := by decide +kernel
theorem dX5_carry_66 : decode cX5_carry 66 = .ok (.ireturn, 1) := by decide +kernel
theorem dX5_carry_67 : decode cX5_carry 67 = .ok (.aload_n 0, 1) := by decide +kernel
theorem dX5_carry_68 : decode cX5_carry 68 = .ok (.iload_n 2, 1) := by decide +kernel
theorem dX5_carry_69 : decode cX5_carry 69 = .ok (.invokevirtual 179, 3) := by decide +kernel
theorem dX5_carry_72 : decode cX5_carry 72 = .ok (.ireturn, 1) := by decide +kernel
theorem dX5_carry_73 : decode cX5_carry 73 = .ok (.aload_n 0, 1) := by decide +kernel
theorem dX5_carry_74 : decode cX5_carry 74 = .ok (.iload_n 2, 1) := by decide +kernel
theorem dX5_carry_75 : decode cX5_carry 75 = .ok (.aload_n 0, 1) := by decide +kernel
theorem dX5_carry_76 : decode cX5_carry 76 = .ok (.getfield 32, 3) := by decide +kernel
theorem dX5_carry_79 : decode cX5_carry 79 = .ok (.iload_n 1, 1) := by decide +kernel
theorem dX5_carry_80 : decode cX5_carry 80 = .ok (.iconst 2, 1) := by decide +kernel
theorem dX5_carry_81 : decode cX5_carry 81 = .ok (.iadd, 1) := by decide +kernel
theorem dX5_carry_82 : decode cX5_carry 82 = .ok (.iaload, 1) := by decide +kernel
theorem dX5_carry_83 : decode cX5_carry 83 = .ok (.invokevirtual 182, 3) := by decide +kernel
theorem dX5_carry_86 : decode cX5_carry 86 = .ok (.ireturn, 1) := by decide +kernel
theorem dX5_carry_87 : decode cX5_carry 87 = .ok (.aload_n 0, 1) := by decide +kernel
theorem dX5_carry_88 : decode cX5_carry 88 = .ok (.iload_n 2, 1) := by decide +kernel
theorem dX5_carry_89 : decode cX5_carry 89 = .ok (.invokevirtual 185, 3) := by decide +kernel
theorem dX5_carry_92 : decode cX5_carry 92 = .ok (.ireturn, 1) := by decide +kernel
theorem dX5_carryOut_0 : decode cX5_carryOut 0 = .ok (.aload_n 0, 1) := by decide +kernel
theorem dX5_carryOut_1 : decode cX5_carryOut 1 = .ok (.invokevirtual 170, 3) := by decide +kernel
theorem dX5_carryOut_4 : decode cX5_carryOut 4 = .ok (.bipush (-6), 2) := by decide +kernel
theorem dX5_carryOut_6 : decode cX5_carryOut 6 = .ok (.if_icmp .eq 6, 3) := by decide +kernel
theorem dX5_carryOut_9 : decode cX5_carryOut 9 = .ok (.bipush (-3), 2) := by decide +kernel
theorem dX5_carryOut_11 : decode cX5_carryOut 11 = .ok (.ireturn, 1) := by decide +kernel
theorem dX5_carryOut_12 : decode cX5_carryOut 12 = .ok (.aload_n 0, 1) := by decide +kernel
theorem dX5_carryOut_13 : decode cX5_carryOut 13 = .ok (.invokevirtual 84, 3) := by decide +kernel
theorem dX5_carryOut_16 : decode cX5_carryOut 16 = .ok (.aload_n 0, 1) := by decide +kernel
theorem dX5_carryOut_17 : decode cX5_carryOut 17 = .ok (.iconst 1, 1) := by decide +kernel
theorem dX5_carryOut_18 : decode cX5_carryOut 18 = .ok (.putfield 35, 3) := by decide +kernel
theorem dX5_carryOut_21 : decode cX5_carryOut 21 = .ok (.iconst 0, 1) := by decide +kernel
theorem dX5_carryOut_22 : decode cX5_carryOut 22 = .ok (.istore_n 1, 1) := by decide +kernel
theorem dX5_carryOut_23 : decode cX5_carryOut 23 = .ok (.iconst 1, 1) := by decide +kernel
theorem dX5_carryOut_24 : decode cX5_carryOut 24 = .ok (.istore_n 2, 1) := by decide +kernel
theorem dX5_carryOut_25 : decode cX5_carryOut 25 = .ok (.iload_n 2, 1) := by decide +kernel
theorem dX5_carryOut_26 : decode cX5_carryOut 26 = .ok (.ifCond .eq 50, 3) := by decide +kernel
theorem dX5_carryOut_29 : decode cX5_carryOut 29 = .ok (.iload_n 1, 1) := by decide +kernel
theorem dX5_carryOut_30 : decode cX5_carryOut 30 = .ok (.aload_n 0, 1) := by decide +kernel
theorem dX5_carryOut_31 : decode cX5_carryOut 31 = .ok (.getfield 159, 3) := by decide +kernel
theorem dX5_carryOut_34 : decode cX5_carryOut 34 = .ok (.if_icmp .ge 42, 3) := by decide +kernel
theorem dX5_carryOut_37 : decode cX5_carryOut 37 = .ok (.aload_n 0, 1) := by decide +kernel
theorem dX5_carryOut_38 : decode cX5_carryOut 38 = .ok (.iconst 3, 1) := by decide +kernel
theorem dX5_carryOut_39 : decode cX5_carryOut 39 = .ok (.iload_n 1, 1) := by decide +kernel
theorem dX5_carryOut_40 : decode cX5_carryOut 40 = .ok (.imul, 1) := by decide +kernel
theorem dX5_carryOut_41 : decode cX5_carryOut 41 = .ok (.invokevirtual 188, 3) := by decide +kernel
theorem dX5_carryOut_44 : decode cX5_carryOut 44 = .ok (.istore_n 3, 1) := by decide +kernel
theorem dX5_carryOut_45 : decode cX5_carryOut 45 = .ok (.iload_n 3, 1) := by decide +kernel
theorem dX5_carryOut_46 : decode cX5_carryOut 46 = .ok (.ifCond .ge 9, 3) := by decide +kernel
theorem dX5_carryOut_49 : decode cX5_carryOut 49 = .ok (.iload_n 3, 1) := by decide +kernel
theorem dX5_carryOut_50 : decode cX5_carryOut 50 = .ok (.bipush (-6), 2) := by decide +kernel
theorem dX5_carryOut_52 : decode cX5_carryOut 52 = .ok (.if_icmp .ne 7, 3) := by decide +kernel
theorem dX5_carryOut_55 : decode cX5_carryOut 55 = .ok (.iconst 1, 1) := by decide +kernel
theorem dX5_carryOut_56 : decode cX5_carryOut 56 = .ok (.goto 4, 3) := by decide +kernel
theorem dX5_carryOut_59 : decode cX5_carryOut 59 = .ok (.iconst 0, 1) := by decide +kernel
theorem dX5_carryOut_60 : decode cX5_carryOut 60 = .ok (.istore_n 2, 1) := by decide +kernel
theorem dX5_carryOut_61 : decode cX5_carryOut 61 = .ok (.iload_n 1, 1) := by decide +kernel
theorem dX5_carryOut_62 : decode cX5_carryOut 62 = .ok (.iload_n 2, 1) := by decide +kernel
theorem dX5_carryOut_63 : decode cX5_carryOut 63 = .ok (.ifCond .eq 7, 3) := by decide +kernel
theorem dX5_carryOut_66 : decode cX5_carryOut 66 = .ok (.iconst 1, 1) := by decide +kernel
theorem dX5_carryOut_67 : decode cX5_carryOut 67 = .ok (.goto 4, 3) := by decide +kernel
theorem dX5_carryOut_70 : decode cX5_carryOut 70 = .ok (.iconst 0, 1) := by decide +kernel
theorem dX5_carryOut_71 : decode cX5_carryOut 71 = .ok (.iadd, 1) := by decide +kernel
theorem dX5_carryOut_72 : decode cX5_carryOut 72 = .ok (.istore_n 1, 1) := by decide +kernel
theorem dX5_carryOut_73 : decode cX5_carryOut 73 = .ok (.goto (-48), 3) := by decide +kernel
theorem dX5_carryOut_76 : decode cX5_carryOut 76 = .ok (.aload_n 0, 1) := by decide +kernel
theorem dX5_carryOut_77 : decode cX5_carryOut 77 = .ok (.iconst 0, 1) := by decide +kernel
theorem dX5_carryOut_78 : decode cX5_carryOut 78 = .ok (.putfield 35, 3) := by decide +kernel
theorem dX5_carryOut_81 : decode cX5_carryOut 81 = .ok (.aload_n 0, 1) := by decide +kernel
theorem dX5_carryOut_82 : decode cX5_carryOut 82 = .ok (.iconst 0, 1) := by decide +kernel
theorem dX5_carryOut_83 : decode cX5_carryOut 83 = .ok (.putfield 133, 3) := by decide +kernel
theorem dX5_carryOut_86 : decode cX5_carryOut 86 = .ok (.iload_n 1, 1) := by decide +kernel
theorem dX5_carryOut_87 : decode cX5_carryOut 87 = .ok (.ireturn, 1) := by decide +kernel
theorem dX5_undo_0 : decode cX5_undo 0 = .ok (.aload_n 0, 1) := by decide +kernel
theorem dX5_undo_1 : decode cX5_undo 1 = .ok (.getfield 39, 3) := by decide +kernel
theorem dX5_undo_4 : decode cX5_undo 4 = .ok (.ifCond .ne 6, 3) := by decide +kernel
theorem dX5_undo_7 : decode cX5_undo 7 = .ok (.bipush (-5), 2) := by decide +kernel
theorem dX5_undo_9 : decode cX5_undo 9 = .ok (.ireturn, 1) := by decide +kernel
theorem dX5_undo_10 : decode cX5_undo 10 = .ok (.aload_n 0, 1) := by decide +kernel
theorem dX5_undo_11 : decode cX5_undo 11 = .ok (.dup, 1) := by decide +kernel
theorem dX5_undo_12 : decode cX5_undo 12 = .ok (.getfield 39, 3) := by decide +kernel
theorem dX5_undo_15 : decode cX5_undo 15 = .ok (.iconst 1, 1) := by decide +kernel
theorem dX5_undo_16 : decode cX5_undo 16 = .ok (.isub, 1) := by decide +kernel
theorem dX5_undo_17 : decode cX5_undo 17 = .ok (.putfield 39, 3) := by decide +kernel
theorem dX5_undo_20 : decode cX5_undo 20 = .ok (.iconst 0, 1) := by decide +kernel
theorem dX5_undo_21 : decode cX5_undo 21 = .ok (.istore_n 1, 1) := by decide +kernel
theorem dX5_undo_22 : decode cX5_undo 22 = .ok (.iload_n 1, 1) := by decide +kernel
theorem dX5_undo_23 : decode cX5_undo 23 = .ok (.sipush 150, 3) := by decide +kernel
theorem dX5_undo_26 : decode cX5_undo 26 = .ok (.if_icmp .ge 30, 3) := by decide +kernel
theorem dX5_undo_29 : decode cX5_undo 29 = .ok (.aload_n 0, 1) := by decide +kernel
theorem dX5_undo_30 : decode cX5_undo 30 = .ok (.getfield 7, 3) := by decide +kernel
theorem dX5_undo_33 : decode cX5_undo 33 = .ok (.iload_n 1, 1) := by decide +kernel
theorem dX5_undo_34 : decode cX5_undo 34 = .ok (.aload_n 0, 1) := by decide +kernel
theorem dX5_undo_35 : decode cX5_undo 35 = .ok (.getfield 16, 3) := by decide +kernel
theorem dX5_undo_38 : decode cX5_undo 38 = .ok (.aload_n 0, 1) := by decide +kernel
theorem dX5_undo_39 : decode cX5_undo 39 = .ok (.getfield 39, 3) := by decide +kernel
theorem dX5_undo_42 : decode cX5_undo 42 = .ok (.sipush 150, 3) := by decide +kernel
theorem dX5_undo_45 : decode cX5_undo 45 = .ok (.imul, 1) := by decide +kernel
theorem dX5_undo_46 : decode cX5_undo 46 = .ok (.iload_n 1, 1) := by decide +kernel
theorem dX5_undo_47 : decode cX5_undo 47 = .ok (.iadd, 1) := by decide +kernel
theorem dX5_undo_48 : decode cX5_undo 48 = .ok (.iaload, 1) := by decide +kernel
theorem dX5_undo_49 : decode cX5_undo 49 = .ok (.iastore, 1) := by decide +kernel
theorem dX5_undo_50 : decode cX5_undo 50 = .ok (.iinc 1 1, 3) := by decide +kernel
theorem dX5_undo_53 : decode cX5_undo 53 = .ok (.goto (-31), 3) := by decide +kernel
theorem dX5_undo_56 : decode cX5_undo 56 = .ok (.aload_n 0, 1) := by decide +kernel
theorem dX5_undo_57 : decode cX5_undo 57 = .ok (.getfield 39, 3) := by decide +kernel
theorem dX5_undo_60 : decode cX5_undo 60 = .ok (.ireturn, 1) := by decide +kernel
theorem dX5_save_0 : decode cX5_save 0 = .ok (.iload_n 1, 1) := by decide +kernel
theorem dX5_save_1 : decode cX5_save 1 = .ok (.iconst 0, 1) := by decide +kernel
theorem dX5_save_2 : decode cX5_save 2 = .ok (.iconst 1, 1) := by decide +kernel
theorem dX5_save_3 : decode cX5_save 3 = .ok (.invokestatic 43, 3) := by decide +kernel
theorem dX5_save_6 : decode cX5_save 6 = .ok (.ifCond .ne 6, 3) := by decide +kernel
theorem dX5_save_9 : decode cX5_save 9 = .ok (.bipush (-2), 2) := by decide +kernel
theorem dX5_save_11 : decode cX5_save 11 = .ok (.ireturn, 1) := by decide +kernel
theorem dX5_save_12 : decode cX5_save 12 = .ok (.iconst 0, 1) := by decide +kernel
theorem dX5_save_13 : decode cX5_save 13 = .ok (.istore_n 2, 1) := by decide +kernel
theorem dX5_save_14 : decode cX5_save 14 = .ok (.iload_n 2, 1) := by decide +kernel
theorem dX5_save_15 : decode cX5_save 15 = .ok (.sipush 150, 3) := by decide +kernel
theorem dX5_save_18 : decode cX5_save 18 = .ok (.if_icmp .ge 27, 3) := by decide +kernel
theorem dX5_save_21 : decode cX5_save 21 = .ok (.aload_n 0, 1) := by decide +kernel
theorem dX5_save_22 : decode cX5_save 22 = .ok (.getfield 19, 3) := by decide +kernel
theorem dX5_save_25 : decode cX5_save 25 = .ok (.iload_n 1, 1) := by decide +kernel
theorem dX5_save_26 : decode cX5_save 26 = .ok (.sipush 150, 3) := by decide +kernel
theorem dX5_save_29 : decode cX5_save 29 = .ok (.imul, 1) := by decide +kernel
theorem dX5_save_30 : decode cX5_save 30 = .ok (.iload_n 2, 1) := by decide +kernel
theorem dX5_save_31 : decode cX5_save 31 = .ok (.iadd, 1) := by decide +kernel
theorem dX5_save_32 : decode cX5_save 32 = .ok (.aload_n 0, 1) := by decide +kernel
theorem dX5_save_33 : decode cX5_save 33 = .ok (.getfield 7, 3) := by decide +kernel
theorem dX5_save_36 : decode cX5_save 36 = .ok (.iload_n 2, 1) := by decide +kernel
theorem dX5_save_37 : decode cX5_save 37 = .ok (.iaload, 1) := by decide +kernel
theorem dX5_save_38 : decode cX5_save 38 = .ok (.iastore, 1) := by decide +kernel
theorem dX5_save_39 : decode cX5_save 39 = .ok (.iinc 2 1, 3) := by decide +kernel
theorem dX5_save_42 : decode cX5_save 42 = .ok (.goto (-28), 3) := by decide +kernel
theorem dX5_save_45 : decode cX5_save 45 = .ok (.aload_n 0, 1) := by decide +kernel
theorem dX5_save_46 : decode cX5_save 46 = .ok (.getfield 22, 3) := by decide +kernel
theorem dX5_save_49 : decode cX5_save 49 = .ok (.iload_n 1, 1) := by decide +kernel
theorem dX5_save_50 : decode cX5_save 50 = .ok (.iconst 1, 1) := by decide +kernel
theorem dX5_save_51 : decode cX5_save 51 = .ok (.bastore, 1) := by decide +kernel
theorem dX5_save_52 : decode cX5_save 52 = .ok (.aload_n 0, 1) := by decide +kernel
theorem dX5_save_53 : decode cX5_save 53 = .ok (.getfield 7, 3) := by decide +kernel
theorem dX5_save_56 : decode cX5_save 56 = .ok (.iconst 2, 1) := by decide +kernel
theorem dX5_save_57 : decode cX5_save 57 = .ok (.iaload, 1) := by decide +kernel
theorem dX5_save_58 : decode cX5_save 58 = .ok (.ireturn, 1) := by decide +kernel
theorem dX5_restore_0 : decode cX5_restore 0 = .ok (.iload_n 1, 1) := by decide +kernel
theorem dX5_restore_1 : decode cX5_restore 1 = .ok (.iconst 0, 1) := by decide +kernel
theorem dX5_restore_2 : decode cX5_restore 2 = .ok (.iconst 1, 1) := by decide +kernel
theorem dX5_restore_3 : decode cX5_restore 3 = .ok (.invokestatic 43, 3) := by decide +kernel
theorem dX5_restore_6 : decode cX5_restore 6 = .ok (.ifCond .ne 6, 3) := by decide +kernel
theorem dX5_restore_9 : decode cX5_restore 9 = .ok (.bipush (-2), 2) := by decide +kernel
theorem dX5_restore_11 : decode cX5_restore 11 = .ok (.ireturn, 1) := by decide +kernel
theorem dX5_restore_12 : decode cX5_restore 12 = .ok (.aload_n 0, 1) := by decide +kernel
theorem dX5_restore_13 : decode cX5_restore 13 = .ok (.getfield 22, 3) := by decide +kernel
theorem dX5_restore_16 : decode cX5_restore 16 = .ok (.iload_n 1, 1) := by decide +kernel
theorem dX5_restore_17 : decode cX5_restore 17 = .ok (.baload, 1) := by decide +kernel
theorem dX5_restore_18 : decode cX5_restore 18 = .ok (.ifCond .ne 6, 3) := by decide +kernel
theorem dX5_restore_21 : decode cX5_restore 21 = .ok (.bipush (-5), 2) := by decide +kernel
theorem dX5_restore_23 : decode cX5_restore 23 = .ok (.ireturn, 1) := by decide +kernel
theorem dX5_restore_24 : decode cX5_restore 24 = .ok (.aload_n 0, 1) := by decide +kernel
theorem dX5_restore_25 : decode cX5_restore 25 = .ok (.invokevirtual 84, 3) := by decide +kernel
theorem dX5_restore_28 : decode cX5_restore 28 = .ok (.iconst 0, 1) := by decide +kernel
theorem dX5_restore_29 : decode cX5_restore 29 = .ok (.istore_n 2, 1) := by decide +kernel
theorem dX5_restore_30 : decode cX5_restore 30 = .ok (.iload_n 2, 1) := by decide +kernel
theorem dX5_restore_31 : decode cX5_restore 31 = .ok (.sipush 150, 3) := by decide +kernel
theorem dX5_restore_34 : decode cX5_restore 34 = .ok (.if_icmp .ge 27, 3) := by decide +kernel
theorem dX5_restore_37 : decode cX5_restore 37 = .ok (.aload_n 0, 1) := by decide +kernel
theorem dX5_restore_38 : decode cX5_restore 38 = .ok (.getfield 7, 3) := by decide +kernel
theorem dX5_restore_41 : decode cX5_restore 41 = .ok (.iload_n 2, 1) := by decide +kernel
theorem dX5_restore_42 : decode cX5_restore 42 = .ok (.aload_n 0, 1) := by decide +kernel
theorem dX5_restore_43 : decode cX5_restore 43 = .ok (.getfield 19, 3) := by decide +kernel
theorem dX5_restore_46 : decode cX5_restore 46 = .ok (.iload_n 1, 1) := by decide +kernel
theorem dX5_restore_47 : decode cX5_restore 47 = .ok (.sipush 150, 3) := by decide +kernel
theorem dX5_restore_50 : decode cX5_restore 50 = .ok (.imul, 1) := by decide +kernel
theorem dX5_restore_51 : decode cX5_restore 51 = .ok (.iload_n 2, 1) := by decide +kernel
theorem dX5_restore_52 : decode cX5_restore 52 = .ok (.iadd, 1) := by decide +kernel
theorem dX5_restore_53 : decode cX5_restore 53 = .ok (.iaload, 1) := by decide +kernel
theorem dX5_restore_54 : decode cX5_restore 54 = .ok (.iastore, 1) := by decide +kernel
theorem dX5_restore_55 : decode cX5_restore 55 = .ok (.iinc 2 1, 3) := by decide +kernel
theorem dX5_restore_58 : decode cX5_restore 58 = .ok (.goto (-28), 3) := by decide +kernel
theorem dX5_restore_61 : decode cX5_restore 61 = .ok (.aload_n 0, 1) := by decide +kernel
theorem dX5_restore_62 : decode cX5_restore 62 = .ok (.getfield 7, 3) := by decide +kernel
theorem dX5_restore_65 : decode cX5_restore 65 = .ok (.iconst 2, 1) := by decide +kernel
theorem dX5_restore_66 : decode cX5_restore 66 = .ok (.iaload, 1) := by decide +kernel
theorem dX5_restore_67 : decode cX5_restore 67 = .ok (.ireturn, 1) := by decide +kernel
