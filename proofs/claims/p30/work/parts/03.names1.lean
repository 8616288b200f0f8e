theorem dX0_init_0 : decode cX0_init 0 = .ok (.aload_n 0, 1) := by decide +kernel
theorem dX0_init_1 : decode cX0_init 1 = .ok (.invokespecial 3, 3) := by decide +kernel
theorem dX0_init_4 : decode cX0_init 4 = .ok (.aload_n 0, 1) := by decide +kernel
theorem dX0_init_5 : decode cX0_init 5 = .ok (.iconst 0, 1) := by decide +kernel
theorem dX0_init_6 : decode cX0_init 6 = .ok (.putfield 9, 3) := by decide +kernel
theorem dX0_init_9 : decode cX0_init 9 = .ok (.aload_n 0, 1) := by decide +kernel
theorem dX0_init_10 : decode cX0_init 10 = .ok (.ldc2_w 15, 3) := by decide +kernel
theorem dX0_init_13 : decode cX0_init 13 = .ok (.putfield 17, 3) := by decide +kernel
theorem dX0_init_16 : decode cX0_init 16 = .ok (.aload_n 0, 1) := by decide +kernel
theorem dX0_init_17 : decode cX0_init 17 = .ok (.ldc2_w 15, 3) := by decide +kernel
theorem dX0_init_20 : decode cX0_init 20 = .ok (.putfield 21, 3) := by decide +kernel
theorem dX0_init_23 : decode cX0_init 23 = .ok (.aload_n 0, 1) := by decide +kernel
theorem dX0_init_24 : decode cX0_init 24 = .ok (.iconst (-1), 1) := by decide +kernel
theorem dX0_init_25 : decode cX0_init 25 = .ok (.putfield 24, 3) := by decide +kernel
theorem dX0_init_28 : decode cX0_init 28 = .ok (.return_, 1) := by decide +kernel
theorem dX0_tellOf_0 : decode cX0_tellOf 0 = .ok (.aload_n 1, 1) := by decide +kernel
theorem dX0_tellOf_1 : decode cX0_tellOf 1 = .ok (.invokevirtual 28, 3) := by decide +kernel
theorem dX0_tellOf_4 : decode cX0_tellOf 4 = .ok (.iconst (-1), 1) := by decide +kernel
theorem dX0_tellOf_5 : decode cX0_tellOf 5 = .ok (.if_icmp .eq 8, 3) := by decide +kernel
theorem dX0_tellOf_8 : decode cX0_tellOf 8 = .ok (.aload_n 0, 1) := by decide +kernel
theorem dX0_tellOf_9 : decode cX0_tellOf 9 = .ok (.invokevirtual 34, 3) := by decide +kernel
theorem dX0_tellOf_12 : decode cX0_tellOf 12 = .ok (.return_, 1) := by decide +kernel
theorem dX0_tellOf_13 : decode cX0_tellOf 13 = .ok (.aload_n 0, 1) := by decide +kernel
theorem dX0_tellOf_14 : decode cX0_tellOf 14 = .ok (.aload_n 1, 1) := by decide +kernel
theorem dX0_tellOf_15 : decode cX0_tellOf 15 = .ok (.aload_n 1, 1) := by decide +kernel
theorem dX0_tellOf_16 : decode cX0_tellOf 16 = .ok (.getfield 37, 3) := by decide +kernel
theorem dX0_tellOf_19 : decode cX0_tellOf 19 = .ok (.invokevirtual 41, 3) := by decide +kernel
theorem dX0_tellOf_22 : decode cX0_tellOf 22 = .ok (.aload_n 0, 1) := by decide +kernel
theorem dX0_tellOf_23 : decode cX0_tellOf 23 = .ok (.invokevirtual 45, 3) := by decide +kernel
theorem dX0_tellOf_26 : decode cX0_tellOf 26 = .ok (.return_, 1) := by decide +kernel
theorem dX0_tellNone_0 : decode cX0_tellNone 0 = .ok (.aload_n 0, 1) := by decide +kernel
theorem dX0_tellNone_1 : decode cX0_tellNone 1 = .ok (.iconst 0, 1) := by decide +kernel
theorem dX0_tellNone_2 : decode cX0_tellNone 2 = .ok (.putfield 9, 3) := by decide +kernel
theorem dX0_tellNone_5 : decode cX0_tellNone 5 = .ok (.aload_n 0, 1) := by decide +kernel
theorem dX0_tellNone_6 : decode cX0_tellNone 6 = .ok (.ldc2_w 15, 3) := by decide +kernel
theorem dX0_tellNone_9 : decode cX0_tellNone 9 = .ok (.putfield 17, 3) := by decide +kernel
theorem dX0_tellNone_12 : decode cX0_tellNone 12 = .ok (.aload_n 0, 1) := by decide +kernel
theorem dX0_tellNone_13 : decode cX0_tellNone 13 = .ok (.ldc2_w 15, 3) := by decide +kernel
theorem dX0_tellNone_16 : decode cX0_tellNone 16 = .ok (.putfield 21, 3) := by decide +kernel
theorem dX0_tellNone_19 : decode cX0_tellNone 19 = .ok (.aload_n 0, 1) := by decide +kernel
theorem dX0_tellNone_20 : decode cX0_tellNone 20 = .ok (.iconst (-1), 1) := by decide +kernel
theorem dX0_tellNone_21 : decode cX0_tellNone 21 = .ok (.putfield 24, 3) := by decide +kernel
theorem dX0_tellNone_24 : decode cX0_tellNone 24 = .ok (.return_, 1) := by decide +kernel
theorem dX0_measure_0 : decode cX0_measure 0 = .ok (.aload_n 1, 1) := by decide +kernel
theorem dX0_measure_1 : decode cX0_measure 1 = .ok (.aload_n 2, 1) := by decide +kernel
theorem dX0_measure_2 : decode cX0_measure 2 = .ok (.invokevirtual 48, 3) := by decide +kernel
theorem dX0_measure_5 : decode cX0_measure 5 = .ok (.iconst (-1), 1) := by decide +kernel
theorem dX0_measure_6 : decode cX0_measure 6 = .ok (.if_icmp .eq 8, 3) := by decide +kernel
theorem dX0_measure_9 : decode cX0_measure 9 = .ok (.aload_n 0, 1) := by decide +kernel
theorem dX0_measure_10 : decode cX0_measure 10 = .ok (.invokevirtual 34, 3) := by decide +kernel
theorem dX0_measure_13 : decode cX0_measure 13 = .ok (.return_, 1) := by decide +kernel
theorem dX0_measure_14 : decode cX0_measure 14 = .ok (.aload_n 0, 1) := by decide +kernel
theorem dX0_measure_15 : decode cX0_measure 15 = .ok (.iconst 1, 1) := by decide +kernel
theorem dX0_measure_16 : decode cX0_measure 16 = .ok (.putfield 9, 3) := by decide +kernel
theorem dX0_measure_19 : decode cX0_measure 19 = .ok (.aload_n 0, 1) := by decide +kernel
theorem dX0_measure_20 : decode cX0_measure 20 = .ok (.lconst 0, 1) := by decide +kernel
theorem dX0_measure_21 : decode cX0_measure 21 = .ok (.putfield 17, 3) := by decide +kernel
theorem dX0_measure_24 : decode cX0_measure 24 = .ok (.aload_n 0, 1) := by decide +kernel
theorem dX0_measure_25 : decode cX0_measure 25 = .ok (.lconst 1, 1) := by decide +kernel
theorem dX0_measure_26 : decode cX0_measure 26 = .ok (.putfield 21, 3) := by decide +kernel
theorem dX0_measure_29 : decode cX0_measure 29 = .ok (.aload_n 0, 1) := by decide +kernel
theorem dX0_measure_30 : decode cX0_measure 30 = .ok (.iconst (-1), 1) := by decide +kernel
theorem dX0_measure_31 : decode cX0_measure 31 = .ok (.putfield 24, 3) := by decide +kernel
theorem dX0_measure_34 : decode cX0_measure 34 = .ok (.aload_n 2, 1) := by decide +kernel
theorem dX0_measure_35 : decode cX0_measure 35 = .ok (.aload_n 2, 1) := by decide +kernel
theorem dX0_measure_36 : decode cX0_measure 36 = .ok (.invokestatic 52, 3) := by decide +kernel
theorem dX0_measure_39 : decode cX0_measure 39 = .ok (.i2l, 1) := by decide +kernel
theorem dX0_measure_40 : decode cX0_measure 40 = .ok (.lstore_n 3, 1) := by decide +kernel
theorem dX0_measure_41 : decode cX0_measure 41 = .ok (.iconst 0, 1) := by decide +kernel
theorem dX0_measure_42 : decode cX0_measure 42 = .ok (.istore 5, 2) := by decide +kernel
theorem dX0_measure_44 : decode cX0_measure 44 = .ok (.iload 5, 2) := by decide +kernel
theorem dX0_measure_46 : decode cX0_measure 46 = .ok (.aload_n 1, 1) := by decide +kernel
theorem dX0_measure_47 : decode cX0_measure 47 = .ok (.getfield 56, 3) := by decide +kernel
theorem dX0_measure_50 : decode cX0_measure 50 = .ok (.if_icmp .ge 67, 3) := by decide +kernel
theorem dX0_measure_53 : decode cX0_measure 53 = .ok (.aload_n 1, 1) := by decide +kernel
theorem dX0_measure_54 : decode cX0_measure 54 = .ok (.getfield 59, 3) := by decide +kernel
theorem dX0_measure_57 : decode cX0_measure 57 = .ok (.iload 5, 2) := by decide +kernel
theorem dX0_measure_59 : decode cX0_measure 59 = .ok (.iaload, 1) := by decide +kernel
theorem dX0_measure_60 : decode cX0_measure 60 = .ok (.ifCond .le 51, 3) := by decide +kernel
theorem dX0_measure_63 : decode cX0_measure 63 = .ok (.aload_n 1, 1) := by decide +kernel
theorem dX0_measure_64 : decode cX0_measure 64 = .ok (.getfield 62, 3) := by decide +kernel
theorem dX0_measure_67 : decode cX0_measure 67 = .ok (.iload 5, 2) := by decide +kernel
theorem dX0_measure_69 : decode cX0_measure 69 = .ok (.aaload, 1) := by decide +kernel
theorem dX0_measure_70 : decode cX0_measure 70 = .ok (.astore 6, 2) := by decide +kernel
theorem dX0_measure_72 : decode cX0_measure 72 = .ok (.aload_n 2, 1) := by decide +kernel
theorem dX0_measure_73 : decode cX0_measure 73 = .ok (.aload 6, 2) := by decide +kernel
theorem dX0_measure_75 : decode cX0_measure 75 = .ok (.invokestatic 52, 3) := by decide +kernel
theorem dX0_measure_78 : decode cX0_measure 78 = .ok (.i2l, 1) := by decide +kernel
theorem dX0_measure_79 : decode cX0_measure 79 = .ok (.lstore 7, 2) := by decide +kernel
theorem dX0_measure_81 : decode cX0_measure 81 = .ok (.aload_n 0, 1) := by decide +kernel
theorem dX0_measure_82 : decode cX0_measure 82 = .ok (.aload_n 1, 1) := by decide +kernel
theorem dX0_measure_83 : decode cX0_measure 83 = .ok (.getfield 59, 3) := by decide +kernel
theorem dX0_measure_86 : decode cX0_measure 86 = .ok (.iload 5, 2) := by decide +kernel
theorem dX0_measure_88 : decode cX0_measure 88 = .ok (.iaload, 1) := by decide +kernel
theorem dX0_measure_89 : decode cX0_measure 89 = .ok (.i2l, 1) := by decide +kernel
theorem dX0_measure_90 : decode cX0_measure 90 = .ok (.lload_n 3, 1) := by decide +kernel
theorem dX0_measure_91 : decode cX0_measure 91 = .ok (.lmul, 1) := by decide +kernel
theorem dX0_measure_92 : decode cX0_measure 92 = .ok (.aload 6, 2) := by decide +kernel
theorem dX0_measure_94 : decode cX0_measure 94 = .ok (.aload 6, 2) := by decide +kernel
theorem dX0_measure_96 : decode cX0_measure 96 = .ok (.invokestatic 52, 3) := by decide +kernel
theorem dX0_measure_99 : decode cX0_measure 99 = .ok (.i2l, 1) := by decide +kernel
theorem dX0_measure_100 : decode cX0_measure 100 = .ok (.lmul, 1) := by decide +kernel
theorem dX0_measure_101 : decode cX0_measure 101 = .ok (.lload 7, 2) := by decide +kernel
theorem dX0_measure_103 : decode cX0_measure 103 = .ok (.lload 7, 2) := by decide +kernel
theorem dX0_measure_105 : decode cX0_measure 105 = .ok (.lmul, 1) := by decide +kernel
theorem dX0_measure_106 : decode cX0_measure 106 = .ok (.iload 5, 2) := by decide +kernel
theorem dX0_measure_108 : decode cX0_measure 108 = .ok (.invokevirtual 66, 3) := by decide +kernel
theorem dX0_measure_111 : decode cX0_measure 111 = .ok (.iinc 5 1, 3) := by decide +kernel
theorem dX0_measure_114 : decode cX0_measure 114 = .ok (.goto (-70), 3) := by decide +kernel
theorem dX0_measure_117 : decode cX0_measure 117 = .ok (.return_, 1) := by decide +kernel
theorem dX0_raise_0 : decode cX0_raise 0 = .ok (.lload_n 1, 1) := by decide +kernel
theorem dX0_raise_1 : decode cX0_raise 1 = .ok (.aload_n 0, 1) := by decide +kernel
theorem dX0_raise_2 : decode cX0_raise 2 = .ok (.getfield 21, 3) := by decide +kernel
theorem dX0_raise_5 : decode cX0_raise 5 = .ok (.lmul, 1) := by decide +kernel
theorem dX0_raise_6 : decode cX0_raise 6 = .ok (.aload_n 0, 1) := by decide +kernel
theorem dX0_raise_7 : decode cX0_raise 7 = .ok (.getfield 17, 3) := by decide +kernel
theorem dX0_raise_10 : decode cX0_raise 10 = .ok (.lload_n 3, 1) := by decide +kernel
theorem dX0_raise_11 : decode cX0_raise 11 = .ok (.lmul, 1) := by decide +kernel
theorem dX0_raise_12 : decode cX0_raise 12 = .ok (.lcmp, 1) := by decide +kernel
theorem dX0_raise_13 : decode cX0_raise 13 = .ok (.ifCond .le 19, 3) := by decide +kernel
theorem dX0_raise_16 : decode cX0_raise 16 = .ok (.aload_n 0, 1) := by decide +kernel
theorem dX0_raise_17 : decode cX0_raise 17 = .ok (.lload_n 1, 1) := by decide +kernel
theorem dX0_raise_18 : decode cX0_raise 18 = .ok (.putfield 17, 3) := by decide +kernel
theorem dX0_raise_21 : decode cX0_raise 21 = .ok (.aload_n 0, 1) := by decide +kernel
theorem dX0_raise_22 : decode cX0_raise 22 = .ok (.lload_n 3, 1) := by decide +kernel
theorem dX0_raise_23 : decode cX0_raise 23 = .ok (.putfield 21, 3) := by decide +kernel
theorem dX0_raise_26 : decode cX0_raise 26 = .ok (.aload_n 0, 1) := by decide +kernel
theorem dX0_raise_27 : decode cX0_raise 27 = .ok (.iload 5, 2) := by decide +kernel
theorem dX0_raise_29 : decode cX0_raise 29 = .ok (.putfield 24, 3) := by decide +kernel
theorem dX0_raise_32 : decode cX0_raise 32 = .ok (.return_, 1) := by decide +kernel
theorem dX0_reduce_0 : decode cX0_reduce 0 = .ok (.aload_n 0, 1) := by decide +kernel
theorem dX0_reduce_1 : decode cX0_reduce 1 = .ok (.getfield 9, 3) := by decide +kernel
theorem dX0_reduce_4 : decode cX0_reduce 4 = .ok (.ifCond .ne 4, 3) := by decide +kernel
theorem dX0_reduce_7 : decode cX0_reduce 7 = .ok (.return_, 1) := by decide +kernel
theorem dX0_reduce_8 : decode cX0_reduce 8 = .ok (.aload_n 0, 1) := by decide +kernel
theorem dX0_reduce_9 : decode cX0_reduce 9 = .ok (.getfield 17, 3) := by decide +kernel
theorem dX0_reduce_12 : decode cX0_reduce 12 = .ok (.lstore_n 1, 1) := by decide +kernel
theorem dX0_reduce_13 : decode cX0_reduce 13 = .ok (.aload_n 0, 1) := by decide +kernel
theorem dX0_reduce_14 : decode cX0_reduce 14 = .ok (.getfield 21, 3) := by decide +kernel
theorem dX0_reduce_17 : decode cX0_reduce 17 = .ok (.lstore_n 3, 1) := by decide +kernel
theorem dX0_reduce_18 : decode cX0_reduce 18 = .ok (.iconst 0, 1) := by decide +kernel
theorem dX0_reduce_19 : decode cX0_reduce 19 = .ok (.istore 5, 2) := by decide +kernel
theorem dX0_reduce_21 : decode cX0_reduce 21 = .ok (.iload 5, 2) := by decide +kernel
theorem dX0_reduce_23 : decode cX0_reduce 23 = .ok (.bipush 100, 2) := by decide +kernel
theorem dX0_reduce_25 : decode cX0_reduce 25 = .ok (.if_icmp .ge 25, 3) := by decide +kernel
theorem dX0_reduce_28 : decode cX0_reduce 28 = .ok (.lload_n 3, 1) := by decide +kernel
theorem dX0_reduce_29 : decode cX0_reduce 29 = .ok (.lconst 0, 1) := by decide +kernel
theorem dX0_reduce_30 : decode cX0_reduce 30 = .ok (.lcmp, 1) := by decide +kernel
theorem dX0_reduce_31 : decode cX0_reduce 31 = .ok (.ifCond .eq 19, 3) := by decide +kernel
theorem dX0_reduce_34 : decode cX0_reduce 34 = .ok (.lload_n 1, 1) := by decide +kernel
theorem dX0_reduce_35 : decode cX0_reduce 35 = .ok (.lload_n 3, 1) := by decide +kernel
theorem dX0_reduce_36 : decode cX0_reduce 36 = .ok (.lrem, 1) := by decide +kernel
theorem dX0_reduce_37 : decode cX0_reduce 37 = .ok (.lstore 6, 2) := by decide +kernel
theorem dX0_reduce_39 : decode cX0_reduce 39 = .ok (.lload_n 3, 1) := by decide +kernel
theorem dX0_reduce_40 : decode cX0_reduce 40 = .ok (.lstore_n 1, 1) := by decide +kernel
theorem dX0_reduce_41 : decode cX0_reduce 41 = .ok (.lload 6, 2) := by decide +kernel
theorem dX0_reduce_43 : decode cX0_reduce 43 = .ok (.lstore_n 3, 1) := by decide +kernel
theorem dX0_reduce_44 : decode cX0_reduce 44 = .ok (.iinc 5 1, 3) := by decide +kernel
theorem dX0_reduce_47 : decode cX0_reduce 47 = .ok (.goto (-26), 3) := by decide +kernel
theorem dX0_reduce_50 : decode cX0_reduce 50 = .ok (.lload_n 1, 1) := by decide +kernel
theorem dX0_reduce_51 : decode cX0_reduce 51 = .ok (.lconst 1, 1) := by decide +kernel
theorem dX0_reduce_52 : decode cX0_reduce 52 = .ok (.lcmp, 1) := by decide +kernel
theorem dX0_reduce_53 : decode cX0_reduce 53 = .ok (.ifCond .le 23, 3) := by decide +kernel
theorem dX0_reduce_56 : decode cX0_reduce 56 = .ok (.aload_n 0, 1) := by decide +kernel
theorem dX0_reduce_57 : decode cX0_reduce 57 = .ok (.dup, 1) := by decide +kernel
theorem dX0_reduce_58 : decode cX0_reduce 58 = .ok (.getfield 17, 3) := by decide +kernel
theorem dX0_reduce_61 : decode cX0_reduce 61 = .ok (.lload_n 1, 1) := by decide +kernel
theorem dX0_reduce_62 : decode cX0_reduce 62 = .ok (.ldiv, 1) := by decide +kernel
theorem dX0_reduce_63 : decode cX0_reduce 63 = .ok (.putfield 17, 3) := by decide +kernel
theorem dX0_reduce_66 : decode cX0_reduce 66 = .ok (.aload_n 0, 1) := by decide +kernel
theorem dX0_reduce_67 : decode cX0_reduce 67 = .ok (.dup, 1) := by decide +kernel
theorem dX0_reduce_68 : decode cX0_reduce 68 = .ok (.getfield 21, 3) := by decide +kernel
theorem dX0_reduce_71 : decode cX0_reduce 71 = .ok (.lload_n 1, 1) := by decide +kernel
theorem dX0_reduce_72 : decode cX0_reduce 72 = .ok (.ldiv, 1) := by decide +kernel
theorem dX0_reduce_73 : decode cX0_reduce 73 = .ok (.putfield 21, 3) := by decide +kernel
theorem dX0_reduce_76 : decode cX0_reduce 76 = .ok (.return_, 1) := by decide +kernel
theorem dX0_partOf_0 : decode cX0_partOf 0 = .ok (.iload_n 1, 1) := by decide +kernel
theorem dX0_partOf_1 : decode cX0_partOf 1 = .ok (.ifCond .ne 10, 3) := by decide +kernel
theorem dX0_partOf_4 : decode cX0_partOf 4 = .ok (.aload_n 0, 1) := by decide +kernel
theorem dX0_partOf_5 : decode cX0_partOf 5 = .ok (.getfield 17, 3) := by decide +kernel
theorem dX0_partOf_8 : decode cX0_partOf 8 = .ok (.goto 20, 3) := by decide +kernel
theorem dX0_partOf_11 : decode cX0_partOf 11 = .ok (.iload_n 1, 1) := by decide +kernel
theorem dX0_partOf_12 : decode cX0_partOf 12 = .ok (.iconst 1, 1) := by decide +kernel
theorem dX0_partOf_13 : decode cX0_partOf 13 = .ok (.if_icmp .ne 10, 3) := by decide +kernel
theorem dX0_partOf_16 : decode cX0_partOf 16 = .ok (.aload_n 0, 1) := by decide +kernel
theorem dX0_partOf_17 : decode cX0_partOf 17 = .ok (.getfield 21, 3) := by decide +kernel
theorem dX0_partOf_20 : decode cX0_partOf 20 = .ok (.goto 8, 3) := by decide +kernel
theorem dX0_partOf_23 : decode cX0_partOf 23 = .ok (.aload_n 0, 1) := by decide +kernel
theorem dX0_partOf_24 : decode cX0_partOf 24 = .ok (.getfield 24, 3) := by decide +kernel
theorem dX0_partOf_27 : decode cX0_partOf 27 = .ok (.i2l, 1) := by decide +kernel
theorem dX0_partOf_28 : decode cX0_partOf 28 = .ok (.lreturn, 1) := by decide +kernel
theorem dX1_init_0 : decode cX1_init 0 = .ok (.aload_n 0, 1) := by decide +kernel
theorem dX1_init_1 : decode cX1_init 1 = .ok (.invokespecial 3, 3) := by decide +kernel
theorem dX1_init_4 : decode cX1_init 4 = .ok (.aload_n 0, 1) := by decide +kernel
theorem dX1_init_5 : decode cX1_init 5 = .ok (.sipush 256, 3) := by decide +kernel
theorem dX1_init_8 : decode cX1_init 8 = .ok (.newarray .int, 2) := by decide +kernel
theorem dX1_init_10 : decode cX1_init 10 = .ok (.putfield 9, 3) := by decide +kernel
theorem dX1_init_13 : decode cX1_init 13 = .ok (.aload_n 0, 1) := by decide +kernel
theorem dX1_init_14 : decode cX1_init 14 = .ok (.iconst 1, 1) := by decide +kernel
theorem dX1_init_15 : decode cX1_init 15 = .ok (.putfield 15, 3) := by decide +kernel
theorem dX1_init_18 : decode cX1_init 18 = .ok (.return_, 1) := by decide +kernel
theorem dX1_find_0 : decode cX1_find 0 = .ok (.aload_n 0, 1) := by decide +kernel
theorem dX1_find_1 : decode cX1_find 1 = .ok (.getfield 9, 3) := by decide +kernel
theorem dX1_find_4 : decode cX1_find 4 = .ok (.iconst 0, 1) := by decide +kernel
theorem dX1_find_5 : decode cX1_find 5 = .ok (.iconst 0, 1) := by decide +kernel
theorem dX1_find_6 : decode cX1_find 6 = .ok (.iastore, 1) := by decide +kernel
theorem dX1_find_7 : decode cX1_find 7 = .ok (.aload_n 0, 1) := by decide +kernel
theorem dX1_find_8 : decode cX1_find 8 = .ok (.iconst 1, 1) := by decide +kernel
theorem dX1_find_9 : decode cX1_find 9 = .ok (.putfield 15, 3) := by decide +kernel
theorem dX1_find_12 : decode cX1_find 12 = .ok (.iconst 0, 1) := by decide +kernel
theorem dX1_find_13 : decode cX1_find 13 = .ok (.istore_n 2, 1) := by decide +kernel
theorem dX1_find_14 : decode cX1_find 14 = .ok (.iload_n 2, 1) := by decide +kernel
theorem dX1_find_15 : decode cX1_find 15 = .ok (.aload_n 1, 1) := by decide +kernel
theorem dX1_find_16 : decode cX1_find 16 = .ok (.getfield 19, 3) := by decide +kernel
theorem dX1_find_19 : decode cX1_find 19 = .ok (.if_icmp .ge 98, 3) := by decide +kernel
theorem dX1_find_22 : decode cX1_find 22 = .ok (.iconst 0, 1) := by decide +kernel
theorem dX1_find_23 : decode cX1_find 23 = .ok (.istore_n 3, 1) := by decide +kernel
theorem dX1_find_24 : decode cX1_find 24 = .ok (.iload_n 3, 1) := by decide +kernel
theorem dX1_find_25 : decode cX1_find 25 = .ok (.aload_n 0, 1) := by decide +kernel
theorem dX1_find_26 : decode cX1_find 26 = .ok (.getfield 15, 3) := by decide +kernel
theorem dX1_find_29 : decode cX1_find 29 = .ok (.if_icmp .ge 72, 3) := by decide +kernel
theorem dX1_find_32 : decode cX1_find 32 = .ok (.aload_n 0, 1) := by decide +kernel
theorem dX1_find_33 : decode cX1_find 33 = .ok (.getfield 9, 3) := by decide +kernel
theorem dX1_find_36 : decode cX1_find 36 = .ok (.iload_n 3, 1) := by decide +kernel
theorem dX1_find_37 : decode cX1_find 37 = .ok (.iaload, 1) := by decide +kernel
theorem dX1_find_38 : decode cX1_find 38 = .ok (.iconst (-1), 1) := by decide +kernel
theorem dX1_find_39 : decode cX1_find 39 = .ok (.if_icmp .eq 20, 3) := by decide +kernel
theorem dX1_find_42 : decode cX1_find 42 = .ok (.iload_n 3, 1) := by decide +kernel
theorem dX1_find_43 : decode cX1_find 43 = .ok (.aload_n 1, 1) := by decide +kernel
theorem dX1_find_44 : decode cX1_find 44 = .ok (.getfield 24, 3) := by decide +kernel
theorem dX1_find_47 : decode cX1_find 47 = .ok (.iload_n 2, 1) := by decide +kernel
theorem dX1_find_48 : decode cX1_find 48 = .ok (.iaload, 1) := by decide +kernel
theorem dX1_find_49 : decode cX1_find 49 = .ok (.iconst (-1), 1) := by decide +kernel
theorem dX1_find_50 : decode cX1_find 50 = .ok (.ixor, 1) := by decide +kernel
theorem dX1_find_51 : decode cX1_find 51 = .ok (.iand, 1) := by decide +kernel
theorem dX1_find_52 : decode cX1_find 52 = .ok (.ifCond .ne 7, 3) := by decide +kernel
theorem dX1_find_55 : decode cX1_find 55 = .ok (.iconst 1, 1) := by decide +kernel
theorem dX1_find_56 : decode cX1_find 56 = .ok (.goto 4, 3) := by decide +kernel
theorem dX1_find_59 : decode cX1_find 59 = .ok (.iconst 0, 1) := by decide +kernel
theorem dX1_find_60 : decode cX1_find 60 = .ok (.istore 4, 2) := by decide +kernel
theorem dX1_find_62 : decode cX1_find 62 = .ok (.aload_n 0, 1) := by decide +kernel
theorem dX1_find_63 : decode cX1_find 63 = .ok (.getfield 9, 3) := by decide +kernel
theorem dX1_find_66 : decode cX1_find 66 = .ok (.aload_n 0, 1) := by decide +kernel
theorem dX1_find_67 : decode cX1_find 67 = .ok (.getfield 15, 3) := by decide +kernel
theorem dX1_find_70 : decode cX1_find 70 = .ok (.iload_n 3, 1) := by decide +kernel
theorem dX1_find_71 : decode cX1_find 71 = .ok (.iadd, 1) := by decide +kernel
theorem dX1_find_72 : decode cX1_find 72 = .ok (.iload 4, 2) := by decide +kernel
theorem dX1_find_74 : decode cX1_find 74 = .ok (.ifCond .eq 19, 3) := by decide +kernel
theorem dX1_find_77 : decode cX1_find 77 = .ok (.aload_n 0, 1) := by decide +kernel
theorem dX1_find_78 : decode cX1_find 78 = .ok (.getfield 9, 3) := by decide +kernel
theorem dX1_find_81 : decode cX1_find 81 = .ok (.iload_n 3, 1) := by decide +kernel
theorem dX1_find_82 : decode cX1_find 82 = .ok (.iaload, 1) := by decide +kernel
theorem dX1_find_83 : decode cX1_find 83 = .ok (.aload_n 1, 1) := by decide +kernel
theorem dX1_find_84 : decode cX1_find 84 = .ok (.getfield 27, 3) := by decide +kernel
theorem dX1_find_87 : decode cX1_find 87 = .ok (.iload_n 2, 1) := by decide +kernel
theorem dX1_find_88 : decode cX1_find 88 = .ok (.iaload, 1) := by decide +kernel
theorem dX1_find_89 : decode cX1_find 89 = .ok (.iadd, 1) := by decide +kernel
theorem dX1_find_90 : decode cX1_find 90 = .ok (.goto 4, 3) := by decide +kernel
theorem dX1_find_93 : decode cX1_find 93 = .ok (.iconst (-1), 1) := by decide +kernel
theorem dX1_find_94 : decode cX1_find 94 = .ok (.iastore, 1) := by decide +kernel
theorem dX1_find_95 : decode cX1_find 95 = .ok (.iinc 3 1, 3) := by decide +kernel
theorem dX1_find_98 : decode cX1_find 98 = .ok (.goto (-74), 3) := by decide +kernel
theorem dX1_find_101 : decode cX1_find 101 = .ok (.aload_n 0, 1) := by decide +kernel
theorem dX1_find_102 : decode cX1_find 102 = .ok (.dup, 1) := by decide +kernel
theorem dX1_find_103 : decode cX1_find 103 = .ok (.getfield 15, 3) := by decide +kernel
theorem dX1_find_106 : decode cX1_find 106 = .ok (.iconst 2, 1) := by decide +kernel
theorem dX1_find_107 : decode cX1_find 107 = .ok (.imul, 1) := by decide +kernel
theorem dX1_find_108 : decode cX1_find 108 = .ok (.putfield 15, 3) := by decide +kernel
theorem dX1_find_111 : decode cX1_find 111 = .ok (.iinc 2 1, 3) := by decide +kernel
theorem dX1_find_114 : decode cX1_find 114 = .ok (.goto (-100), 3) := by decide +kernel
theorem dX1_find_117 : decode cX1_find 117 = .ok (.return_, 1) := by decide +kernel
theorem dX1_weightOf_0 : decode cX1_weightOf 0 = .ok (.aload_n 0, 1) := by decide +kernel
theorem dX1_weightOf_1 : decode cX1_weightOf 1 = .ok (.getfield 9, 3) := by decide +kernel
theorem dX1_weightOf_4 : decode cX1_weightOf 4 = .ok (.iload_n 1, 1) := by decide +kernel
theorem dX1_weightOf_5 : decode cX1_weightOf 5 = .ok (.iaload, 1) := by decide +kernel
theorem dX1_weightOf_6 : decode cX1_weightOf 6 = .ok (.ireturn, 1) := by decide +kernel
theorem dX1_heaviestWith_0 : decode cX1_heaviestWith 0 = .ok (.iload_n 1, 1) := by decide +kernel
theorem dX1_heaviestWith_1 : decode cX1_heaviestWith 1 = .ok (.istore_n 2, 1) := by decide +kernel
theorem dX1_heaviestWith_2 : decode cX1_heaviestWith 2 = .ok (.iconst 0, 1) := by decide +kernel
theorem dX1_heaviestWith_3 : decode cX1_heaviestWith 3 = .ok (.istore_n 3, 1) := by decide +kernel
theorem dX1_heaviestWith_4 : decode cX1_heaviestWith 4 = .ok (.iload_n 3, 1) := by decide +kernel
theorem dX1_heaviestWith_5 : decode cX1_heaviestWith 5 = .ok (.aload_n 0, 1) := by decide +kernel
theorem dX1_heaviestWith_6 : decode cX1_heaviestWith 6 = .ok (.getfield 15, 3) := by decide +kernel
theorem dX1_heaviestWith_9 : decode cX1_heaviestWith 9 = .ok (.if_icmp .ge 33, 3) := by decide +kernel
theorem dX1_heaviestWith_12 : decode cX1_heaviestWith 12 = .ok (.iload_n 3, 1) := by decide +kernel
theorem dX1_heaviestWith_13 : decode cX1_heaviestWith 13 = .ok (.iload_n 1, 1) := by decide +kernel
theorem dX1_heaviestWith_14 : decode cX1_heaviestWith 14 = .ok (.iand, 1) := by decide +kernel
theorem dX1_heaviestWith_15 : decode cX1_heaviestWith 15 = .ok (.iload_n 1, 1) := by decide +kernel
theorem dX1_heaviestWith_16 : decode cX1_heaviestWith 16 = .ok (.if_icmp .ne 20, 3) := by decide +kernel
theorem dX1_heaviestWith_19 : decode cX1_heaviestWith 19 = .ok (.aload_n 0, 1) := by decide +kernel
theorem dX1_heaviestWith_20 : decode cX1_heaviestWith 20 = .ok (.getfield 9, 3) := by decide +kernel
theorem dX1_heaviestWith_23 : decode cX1_heaviestWith 23 = .ok (.iload_n 3, 1) := by decide +kernel
theorem dX1_heaviestWith_24 : decode cX1_heaviestWith 24 = .ok (.iaload, 1) := by decide +kernel
theorem dX1_heaviestWith_25 : decode cX1_heaviestWith 25 = .ok (.aload_n 0, 1) := by decide +kernel
theorem dX1_heaviestWith_26 : decode cX1_heaviestWith 26 = .ok (.getfield 9, 3) := by decide +kernel
theorem dX1_heaviestWith_29 : decode cX1_heaviestWith 29 = .ok (.iload_n 2, 1) := by decide +kernel
theorem dX1_heaviestWith_30 : decode cX1_heaviestWith 30 = .ok (.iaload, 1) := by decide +kernel
theorem dX1_heaviestWith_31 : decode cX1_heaviestWith 31 = .ok (.if_icmp .le 5, 3) := by decide +kernel
theorem dX1_heaviestWith_34 : decode cX1_heaviestWith 34 = .ok (.iload_n 3, 1) := by decide +kernel
theorem dX1_heaviestWith_35 : decode cX1_heaviestWith 35 = .ok (.istore_n 2, 1) := by decide +kernel
theorem dX1_heaviestWith_36 : decode cX1_heaviestWith 36 = .ok (.iinc 3 1, 3) := by decide +kernel
theorem dX1_heaviestWith_39 : decode cX1_heaviestWith 39 = .ok (.goto (-35), 3) := by decide +kernel
theorem dX1_heaviestWith_42 : decode cX1_heaviestWith 42 = .ok (.iload_n 2, 1) := by decide +kernel
theorem dX1_heaviestWith_43 : decode cX1_heaviestWith 43 = .ok (.ireturn, 1) := by decide +kernel
theorem dX1_mostVertices_0 : decode cX1_mostVertices 0 = .ok (.iconst 0, 1) := by decide +kernel
theorem dX1_mostVertices_1 : decode cX1_mostVertices 1 = .ok (.istore_n 1, 1) := by decide +kernel
theorem dX1_mostVertices_2 : decode cX1_mostVertices 2 = .ok (.iconst 0, 1) := by decide +kernel
theorem dX1_mostVertices_3 : decode cX1_mostVertices 3 = .ok (.istore_n 2, 1) := by decide +kernel
theorem dX1_mostVertices_4 : decode cX1_mostVertices 4 = .ok (.iload_n 2, 1) := by decide +kernel
theorem dX1_mostVertices_5 : decode cX1_mostVertices 5 = .ok (.aload_n 0, 1) := by decide +kernel
theorem dX1_mostVertices_6 : decode cX1_mostVertices 6 = .ok (.getfield 15, 3) := by decide +kernel
theorem dX1_mostVertices_9 : decode cX1_mostVertices 9 = .ok (.if_icmp .ge 28, 3) := by decide +kernel
theorem dX1_mostVertices_12 : decode cX1_mostVertices 12 = .ok (.aload_n 0, 1) := by decide +kernel
theorem dX1_mostVertices_13 : decode cX1_mostVertices 13 = .ok (.getfield 9, 3) := by decide +kernel
theorem dX1_mostVertices_16 : decode cX1_mostVertices 16 = .ok (.iload_n 2, 1) := by decide +kernel
theorem dX1_mostVertices_17 : decode cX1_mostVertices 17 = .ok (.iaload, 1) := by decide +kernel
theorem dX1_mostVertices_18 : decode cX1_mostVertices 18 = .ok (.iconst (-1), 1) := by decide +kernel
theorem dX1_mostVertices_19 : decode cX1_mostVertices 19 = .ok (.if_icmp .eq 12, 3) := by decide +kernel
theorem dX1_mostVertices_22 : decode cX1_mostVertices 22 = .ok (.iload_n 1, 1) := by decide +kernel
theorem dX1_mostVertices_23 : decode cX1_mostVertices 23 = .ok (.iload_n 2, 1) := by decide +kernel
theorem dX1_mostVertices_24 : decode cX1_mostVertices 24 = .ok (.invokestatic 28, 3) := by decide +kernel
theorem dX1_mostVertices_27 : decode cX1_mostVertices 27 = .ok (.invokestatic 34, 3) := by decide +kernel
theorem dX1_mostVertices_30 : decode cX1_mostVertices 30 = .ok (.istore_n 1, 1) := by decide +kernel
theorem dX1_mostVertices_31 : decode cX1_mostVertices 31 = .ok (.iinc 2 1, 3) := by decide +kernel
theorem dX1_mostVertices_34 : decode cX1_mostVertices 34 = .ok (.goto (-30), 3) := by decide +kernel
theorem dX1_mostVertices_37 : decode cX1_mostVertices 37 = .ok (.iload_n 1, 1) := by decide +kernel
theorem dX1_mostVertices_38 : decode cX1_mostVertices 38 = .ok (.ireturn, 1) := by decide +kernel
theorem dX2_init_0 : decode cX2_init 0 = .ok (.aload_n 0, 1) := by decide +kernel
theorem dX2_init_1 : decode cX2_init 1 = .ok (.invokespecial 3, 3) := by decide +kernel
theorem dX2_init_4 : decode cX2_init 4 = .ok (.aload_n 0, 1) := by decide +kernel
theorem dX2_init_5 : decode cX2_init 5 = .ok (.bipush 8, 2) := by decide +kernel
theorem dX2_init_7 : decode cX2_init 7 = .ok (.newarray .int, 2) := by decide +kernel
theorem dX2_init_9 : decode cX2_init 9 = .ok (.putfield 9, 3) := by decide +kernel
theorem dX2_init_12 : decode cX2_init 12 = .ok (.aload_n 0, 1) := by decide +kernel
theorem dX2_init_13 : decode cX2_init 13 = .ok (.iconst 0, 1) := by decide +kernel
theorem dX2_init_14 : decode cX2_init 14 = .ok (.putfield 15, 3) := by decide +kernel
theorem dX2_init_17 : decode cX2_init 17 = .ok (.return_, 1) := by decide +kernel
theorem dX2_find_0 : decode cX2_find 0 = .ok (.iconst 1, 1) := by decide +kernel
theorem dX2_find_1 : decode cX2_find 1 = .ok (.istore_n 2, 1) := by decide +kernel
theorem dX2_find_2 : decode cX2_find 2 = .ok (.iload_n 2, 1) := by decide +kernel
theorem dX2_find_3 : decode cX2_find 3 = .ok (.aload_n 1, 1) := by decide +kernel
theorem dX2_find_4 : decode cX2_find 4 = .ok (.getfield 19, 3) := by decide +kernel
theorem dX2_find_7 : decode cX2_find 7 = .ok (.if_icmp .gt 29, 3) := by decide +kernel
theorem dX2_find_10 : decode cX2_find 10 = .ok (.aload_n 1, 1) := by decide +kernel
theorem dX2_find_11 : decode cX2_find 11 = .ok (.aload_n 0, 1) := by decide +kernel
theorem dX2_find_12 : decode cX2_find 12 = .ok (.getfield 9, 3) := by decide +kernel
theorem dX2_find_15 : decode cX2_find 15 = .ok (.iload_n 2, 1) := by decide +kernel
theorem dX2_find_16 : decode cX2_find 16 = .ok (.iconst 0, 1) := by decide +kernel
theorem dX2_find_17 : decode cX2_find 17 = .ok (.iconst 0, 1) := by decide +kernel
theorem dX2_find_18 : decode cX2_find 18 = .ok (.invokestatic 24, 3) := by decide +kernel
theorem dX2_find_21 : decode cX2_find 21 = .ok (.ifCond .eq 9, 3) := by decide +kernel
theorem dX2_find_24 : decode cX2_find 24 = .ok (.aload_n 0, 1) := by decide +kernel
theorem dX2_find_25 : decode cX2_find 25 = .ok (.iload_n 2, 1) := by decide +kernel
theorem dX2_find_26 : decode cX2_find 26 = .ok (.putfield 15, 3) := by decide +kernel
theorem dX2_find_29 : decode cX2_find 29 = .ok (.return_, 1) := by decide +kernel
theorem dX2_find_30 : decode cX2_find 30 = .ok (.iinc 2 1, 3) := by decide +kernel
theorem dX2_find_33 : decode cX2_find 33 = .ok (.goto (-31), 3) := by decide +kernel
theorem dX2_find_36 : decode cX2_find 36 = .ok (.return_, 1) := by decide +kernel
theorem dX2_paint_0 : decode cX2_paint 0 = .ok (.iload_n 3, 1) := by decide +kernel
theorem dX2_paint_1 : decode cX2_paint 1 = .ok (.aload_n 0, 1) := by decide +kernel
theorem dX2_paint_2 : decode cX2_paint 2 = .ok (.getfield 19, 3) := by decide +kernel
theorem dX2_paint_5 : decode cX2_paint 5 = .ok (.if_icmp .lt 5, 3) := by decide +kernel
theorem dX2_paint_8 : decode cX2_paint 8 = .ok (.iconst 1, 1) := by decide +kernel
theorem dX2_paint_9 : decode cX2_paint 9 = .ok (.ireturn, 1) := by decide +kernel
theorem dX2_paint_10 : decode cX2_paint 10 = .ok (.iconst 0, 1) := by decide +kernel
theorem dX2_paint_11 : decode cX2_paint 11 = .ok (.istore 5, 2) := by decide +kernel
theorem dX2_paint_13 : decode cX2_paint 13 = .ok (.iload 5, 2) := by decide +kernel
theorem dX2_paint_15 : decode cX2_paint 15 = .ok (.iload 4, 2) := by decide +kernel
theorem dX2_paint_17 : decode cX2_paint 17 = .ok (.if_icmp .gt 54, 3) := by decide +kernel
theorem dX2_paint_20 : decode cX2_paint 20 = .ok (.iload 5, 2) := by decide +kernel
theorem dX2_paint_22 : decode cX2_paint 22 = .ok (.iload_n 2, 1) := by decide +kernel
theorem dX2_paint_23 : decode cX2_paint 23 = .ok (.if_icmp .ge 48, 3) := by decide +kernel
theorem dX2_paint_26 : decode cX2_paint 26 = .ok (.aload_n 0, 1) := by decide +kernel
theorem dX2_paint_27 : decode cX2_paint 27 = .ok (.aload_n 1, 1) := by decide +kernel
theorem dX2_paint_28 : decode cX2_paint 28 = .ok (.iload_n 3, 1) := by decide +kernel
theorem dX2_paint_29 : decode cX2_paint 29 = .ok (.iload 5, 2) := by decide +kernel
theorem dX2_paint_31 : decode cX2_paint 31 = .ok (.invokestatic 28, 3) := by decide +kernel
theorem dX2_paint_34 : decode cX2_paint 34 = .ok (.ifCond .eq 31, 3) := by decide +kernel
theorem dX2_paint_37 : decode cX2_paint 37 = .ok (.aload_n 1, 1) := by decide +kernel
theorem dX2_paint_38 : decode cX2_paint 38 = .ok (.iload_n 3, 1) := by decide +kernel
theorem dX2_paint_39 : decode cX2_paint 39 = .ok (.iload 5, 2) := by decide +kernel
theorem dX2_paint_41 : decode cX2_paint 41 = .ok (.iastore, 1) := by decide +kernel
theorem dX2_paint_42 : decode cX2_paint 42 = .ok (.aload_n 0, 1) := by decide +kernel
theorem dX2_paint_43 : decode cX2_paint 43 = .ok (.aload_n 1, 1) := by decide +kernel
theorem dX2_paint_44 : decode cX2_paint 44 = .ok (.iload_n 2, 1) := by decide +kernel
theorem dX2_paint_45 : decode cX2_paint 45 = .ok (.iload_n 3, 1) := by decide +kernel
theorem dX2_paint_46 : decode cX2_paint 46 = .ok (.iconst 1, 1) := by decide +kernel
theorem dX2_paint_47 : decode cX2_paint 47 = .ok (.iadd, 1) := by decide +kernel
theorem dX2_paint_48 : decode cX2_paint 48 = .ok (.iload 4, 2) := by decide +kernel
theorem dX2_paint_50 : decode cX2_paint 50 = .ok (.iload 5, 2) := by decide +kernel
theorem dX2_paint_52 : decode cX2_paint 52 = .ok (.iconst 1, 1) := by decide +kernel
theorem dX2_paint_53 : decode cX2_paint 53 = .ok (.iadd, 1) := by decide +kernel
theorem dX2_paint_54 : decode cX2_paint 54 = .ok (.invokestatic 32, 3) := by decide +kernel
theorem dX2_paint_57 : decode cX2_paint 57 = .ok (.invokestatic 24, 3) := by decide +kernel
theorem dX2_paint_60 : decode cX2_paint 60 = .ok (.ifCond .eq 5, 3) := by decide +kernel
theorem dX2_paint_63 : decode cX2_paint 63 = .ok (.iconst 1, 1) := by decide +kernel
theorem dX2_paint_64 : decode cX2_paint 64 = .ok (.ireturn, 1) := by decide +kernel
theorem dX2_paint_65 : decode cX2_paint 65 = .ok (.iinc 5 1, 3) := by decide +kernel
theorem dX2_paint_68 : decode cX2_paint 68 = .ok (.goto (-55), 3) := by decide +kernel
theorem dX2_paint_71 : decode cX2_paint 71 = .ok (.iconst 0, 1) := by decide +kernel
theorem dX2_paint_72 : decode cX2_paint 72 = .ok (.ireturn, 1) := by decide +kernel
theorem dX2_isFree_0 : decode cX2_isFree 0 = .ok (.iconst 0, 1) := by decide +kernel
theorem dX2_isFree_1 : decode cX2_isFree 1 = .ok (.istore 4, 2) := by decide +kernel
theorem dX2_isFree_3 : decode cX2_isFree 3 = .ok (.iload 4, 2) := by decide +kernel
theorem dX2_isFree_5 : decode cX2_isFree 5 = .ok (.iload_n 2, 1) := by decide +kernel
theorem dX2_isFree_6 : decode cX2_isFree 6 = .ok (.if_icmp .ge 29, 3) := by decide +kernel
theorem dX2_isFree_9 : decode cX2_isFree 9 = .ok (.aload_n 1, 1) := by decide +kernel
theorem dX2_isFree_10 : decode cX2_isFree 10 = .ok (.iload 4, 2) := by decide +kernel
theorem dX2_isFree_12 : decode cX2_isFree 12 = .ok (.iaload, 1) := by decide +kernel
theorem dX2_isFree_13 : decode cX2_isFree 13 = .ok (.iload_n 3, 1) := by decide +kernel
theorem dX2_isFree_14 : decode cX2_isFree 14 = .ok (.if_icmp .ne 15, 3) := by decide +kernel
theorem dX2_isFree_17 : decode cX2_isFree 17 = .ok (.aload_n 0, 1) := by decide +kernel
theorem dX2_isFree_18 : decode cX2_isFree 18 = .ok (.iload 4, 2) := by decide +kernel
theorem dX2_isFree_20 : decode cX2_isFree 20 = .ok (.iload_n 2, 1) := by decide +kernel
theorem dX2_isFree_21 : decode cX2_isFree 21 = .ok (.invokevirtual 38, 3) := by decide +kernel
theorem dX2_isFree_24 : decode cX2_isFree 24 = .ok (.ifCond .eq 5, 3) := by decide +kernel
theorem dX2_isFree_27 : decode cX2_isFree 27 = .ok (.iconst 0, 1) := by decide +kernel
theorem dX2_isFree_28 : decode cX2_isFree 28 = .ok (.ireturn, 1) := by decide +kernel
theorem dX2_isFree_29 : decode cX2_isFree 29 = .ok (.iinc 4 1, 3) := by decide +kernel
theorem dX2_isFree_32 : decode cX2_isFree 32 = .ok (.goto (-29), 3) := by decide +kernel
theorem dX2_isFree_35 : decode cX2_isFree 35 = .ok (.iconst 1, 1) := by decide +kernel
theorem dX2_isFree_36 : decode cX2_isFree 36 = .ok (.ireturn, 1) := by decide +kernel
theorem dX3_init_0 : decode cX3_init 0 = .ok (.aload_n 0, 1) := by decide +kernel
theorem dX3_init_1 : decode cX3_init 1 = .ok (.invokespecial 3, 3) := by decide +kernel
theorem dX3_init_4 : decode cX3_init 4 = .ok (.aload_n 0, 1) := by decide +kernel
theorem dX3_init_5 : decode cX3_init 5 = .ok (.bipush 60, 2) := by decide +kernel
theorem dX3_init_7 : decode cX3_init 7 = .ok (.newarray .char, 2) := by decide +kernel
theorem dX3_init_9 : decode cX3_init 9 = .ok (.putfield 9, 3) := by decide +kernel
theorem dX3_init_12 : decode cX3_init 12 = .ok (.aload_n 0, 1) := by decide +kernel
theorem dX3_init_13 : decode cX3_init 13 = .ok (.iconst 0, 1) := by decide +kernel
theorem dX3_init_14 : decode cX3_init 14 = .ok (.putfield 15, 3) := by decide +kernel
theorem dX3_init_17 : decode cX3_init 17 = .ok (.return_, 1) := by decide +kernel
theorem dX4_init_0 : decode cX4_init 0 = .ok (.aload_n 0, 1) := by decide +kernel
theorem dX4_init_1 : decode cX4_init 1 = .ok (.invokespecial 3, 3) := by decide +kernel
theorem dX4_init_4 : decode cX4_init 4 = .ok (.aload_n 0, 1) := by decide +kernel
theorem dX4_init_5 : decode cX4_init 5 = .ok (.iconst 4, 1) := by decide +kernel
theorem dX4_init_6 : decode cX4_init 6 = .ok (.putfield 9, 3) := by decide +kernel
theorem dX4_init_9 : decode cX4_init 9 = .ok (.aload_n 0, 1) := by decide +kernel
theorem dX4_init_10 : decode cX4_init 10 = .ok (.iconst 3, 1) := by decide +kernel
theorem dX4_init_11 : decode cX4_init 11 = .ok (.putfield 15, 3) := by decide +kernel
theorem dX4_init_14 : decode cX4_init 14 = .ok (.aload_n 0, 1) := by decide +kernel
theorem dX4_init_15 : decode cX4_init 15 = .ok (.bipush 8, 2) := by decide +kernel
theorem dX4_init_17 : decode cX4_init 17 = .ok (.newarray .int, 2) := by decide +kernel
theorem dX4_init_19 : decode cX4_init 19 = .ok (.putfield 18, 3) := by decide +kernel
theorem dX4_init_22 : decode cX4_init 22 = .ok (.aload_n 0, 1) := by decide +kernel
theorem dX4_init_23 : decode cX4_init 23 = .ok (.bipush 8, 2) := by decide +kernel
theorem dX4_init_25 : decode cX4_init 25 = .ok (.newarray .int, 2) := by decide +kernel
theorem dX4_init_27 : decode cX4_init 27 = .ok (.putfield 22, 3) := by decide +kernel
theorem dX4_init_30 : decode cX4_init 30 = .ok (.aload_n 0, 1) := by decide +kernel
theorem dX4_init_31 : decode cX4_init 31 = .ok (.bipush 8, 2) := by decide +kernel
theorem dX4_init_33 : decode cX4_init 33 = .ok (.iconst 4, 1) := by decide +kernel
theorem dX4_init_34 : decode cX4_init 34 = .ok (.multianewarray 25 2, 4) := by decide +kernel
theorem dX4_init_38 : decode cX4_init 38 = .ok (.putfield 27, 3) := by decide +kernel
theorem dX4_init_41 : decode cX4_init 41 = .ok (.aload_n 0, 1) := by decide +kernel
theorem dX4_init_42 : decode cX4_init 42 = .ok (.iconst 4, 1) := by decide +kernel
theorem dX4_init_43 : decode cX4_init 43 = .ok (.newarray .int, 2) := by decide +kernel
theorem dX4_init_45 : decode cX4_init 45 = .ok (.putfield 30, 3) := by decide +kernel
theorem dX4_init_48 : decode cX4_init 48 = .ok (.aload_n 0, 1) := by decide +kernel
theorem dX4_init_49 : decode cX4_init 49 = .ok (.getfield 22, 3) := by decide +kernel
theorem dX4_init_52 : decode cX4_init 52 = .ok (.iconst 1, 1) := by decide +kernel
theorem dX4_init_53 : decode cX4_init 53 = .ok (.invokestatic 33, 3) := by decide +kernel
theorem dX4_init_56 : decode cX4_init 56 = .ok (.return_, 1) := by decide +kernel
theorem dX4_clear_0 : decode cX4_clear 0 = .ok (.aload_n 0, 1) := by decide +kernel
theorem dX4_clear_1 : decode cX4_clear 1 = .ok (.iload_n 1, 1) := by decide +kernel
theorem dX4_clear_2 : decode cX4_clear 2 = .ok (.putfield 9, 3) := by decide +kernel
theorem dX4_clear_5 : decode cX4_clear 5 = .ok (.aload_n 0, 1) := by decide +kernel
theorem dX4_clear_6 : decode cX4_clear 6 = .ok (.iload_n 2, 1) := by decide +kernel
theorem dX4_clear_7 : decode cX4_clear 7 = .ok (.putfield 15, 3) := by decide +kernel
theorem dX4_clear_10 : decode cX4_clear 10 = .ok (.aload_n 0, 1) := by decide +kernel
theorem dX4_clear_11 : decode cX4_clear 11 = .ok (.getfield 18, 3) := by decide +kernel
theorem dX4_clear_14 : decode cX4_clear 14 = .ok (.iconst 0, 1) := by decide +kernel
theorem dX4_clear_15 : decode cX4_clear 15 = .ok (.invokestatic 33, 3) := by decide +kernel
theorem dX4_clear_18 : decode cX4_clear 18 = .ok (.aload_n 0, 1) := by decide +kernel
theorem dX4_clear_19 : decode cX4_clear 19 = .ok (.getfield 22, 3) := by decide +kernel
theorem dX4_clear_22 : decode cX4_clear 22 = .ok (.iconst 1, 1) := by decide +kernel
theorem dX4_clear_23 : decode cX4_clear 23 = .ok (.invokestatic 33, 3) := by decide +kernel
theorem dX4_clear_26 : decode cX4_clear 26 = .ok (.iconst 0, 1) := by decide +kernel
theorem dX4_clear_27 : decode cX4_clear 27 = .ok (.istore_n 3, 1) := by decide +kernel
theorem dX4_clear_28 : decode cX4_clear 28 = .ok (.iload_n 3, 1) := by decide +kernel
theorem dX4_clear_29 : decode cX4_clear 29 = .ok (.bipush 8, 2) := by decide +kernel
theorem dX4_clear_31 : decode cX4_clear 31 = .ok (.if_icmp .ge 19, 3) := by decide +kernel
theorem dX4_clear_34 : decode cX4_clear 34 = .ok (.aload_n 0, 1) := by decide +kernel
theorem dX4_clear_35 : decode cX4_clear 35 = .ok (.getfield 27, 3) := by decide +kernel
theorem dX4_clear_38 : decode cX4_clear 38 = .ok (.iload_n 3, 1) := by decide +kernel
theorem dX4_clear_39 : decode cX4_clear 39 = .ok (.aaload, 1) := by decide +kernel
theorem dX4_clear_40 : decode cX4_clear 40 = .ok (.iconst 0, 1) := by decide +kernel
theorem dX4_clear_41 : decode cX4_clear 41 = .ok (.invokestatic 33, 3) := by decide +kernel
theorem dX4_clear_44 : decode cX4_clear 44 = .ok (.iinc 3 1, 3) := by decide +kernel
theorem dX4_clear_47 : decode cX4_clear 47 = .ok (.goto (-19), 3) := by decide +kernel
theorem dX4_clear_50 : decode cX4_clear 50 = .ok (.aload_n 0, 1) := by decide +kernel
theorem dX4_clear_51 : decode cX4_clear 51 = .ok (.getfield 30, 3) := by decide +kernel
theorem dX4_clear_54 : decode cX4_clear 54 = .ok (.iconst 0, 1) := by decide +kernel
theorem dX4_clear_55 : decode cX4_clear 55 = .ok (.invokestatic 33, 3) := by decide +kernel
theorem dX4_clear_58 : decode cX4_clear 58 = .ok (.return_, 1) := by decide +kernel
theorem dX4_copyFrom_0 : decode cX4_copyFrom 0 = .ok (.aload_n 0, 1) := by decide +kernel
theorem dX4_copyFrom_1 : decode cX4_copyFrom 1 = .ok (.aload_n 1, 1) := by decide +kernel
theorem dX4_copyFrom_2 : decode cX4_copyFrom 2 = .ok (.getfield 9, 3) := by decide +kernel
theorem dX4_copyFrom_5 : decode cX4_copyFrom 5 = .ok (.putfield 9, 3) := by decide +kernel
theorem dX4_copyFrom_8 : decode cX4_copyFrom 8 = .ok (.aload_n 0, 1) := by decide +kernel
theorem dX4_copyFrom_9 : decode cX4_copyFrom 9 = .ok (.aload_n 1, 1) := by decide +kernel
theorem dX4_copyFrom_10 : decode cX4_copyFrom 10 = .ok (.getfield 15, 3) := by decide +kernel
theorem dX4_copyFrom_13 : decode cX4_copyFrom 13 = .ok (.putfield 15, 3) := by decide +kernel
theorem dX4_copyFrom_16 : decode cX4_copyFrom 16 = .ok (.aload_n 1, 1) := by decide +kernel
theorem dX4_copyFrom_17 : decode cX4_copyFrom 17 = .ok (.getfield 18, 3) := by decide +kernel
theorem dX4_copyFrom_20 : decode cX4_copyFrom 20 = .ok (.iconst 0, 1) := by decide +kernel
theorem dX4_copyFrom_21 : decode cX4_copyFrom 21 = .ok (.aload_n 0, 1) := by decide +kernel
theorem dX4_copyFrom_22 : decode cX4_copyFrom 22 = .ok (.getfield 18, 3) := by decide +kernel
theorem dX4_copyFrom_25 : decode cX4_copyFrom 25 = .ok (.iconst 0, 1) := by decide +kernel
theorem dX4_copyFrom_26 : decode cX4_copyFrom 26 = .ok (.bipush 8, 2) := by decide +kernel
theorem dX4_copyFrom_28 : decode cX4_copyFrom 28 = .ok (.invokestatic 39, 3) := by decide +kernel
theorem dX4_copyFrom_31 : decode cX4_copyFrom 31 = .ok (.aload_n 1, 1) := by decide +kernel
theorem dX4_copyFrom_32 : decode cX4_copyFrom 32 = .ok (.getfield 22, 3) := by decide +kernel
theorem dX4_copyFrom_35 : decode cX4_copyFrom 35 = .ok (.iconst 0, 1) := by decide +kernel
theorem dX4_copyFrom_36 : decode cX4_copyFrom 36 = .ok (.aload_n 0, 1) := by decide +kernel
theorem dX4_copyFrom_37 : decode cX4_copyFrom 37 = .ok (.getfield 22, 3) := by decide +kernel
theorem dX4_copyFrom_40 : decode cX4_copyFrom 40 = .ok (.iconst 0, 1) := by decide +kernel
theorem dX4_copyFrom_41 : decode cX4_copyFrom 41 = .ok (.bipush 8, 2) := by decide +kernel
theorem dX4_copyFrom_43 : decode cX4_copyFrom 43 = .ok (.invokestatic 39, 3) := by decide +kernel
theorem dX4_copyFrom_46 : decode cX4_copyFrom 46 = .ok (.iconst 0, 1) := by decide +kernel
theorem dX4_copyFrom_47 : decode cX4_copyFrom 47 = .ok (.istore_n 2, 1) := by decide +kernel
theorem dX4_copyFrom_48 : decode cX4_copyFrom 48 = .ok (.iload_n 2, 1) := by decide +kernel
theorem dX4_copyFrom_49 : decode cX4_copyFrom 49 = .ok (.bipush 8, 2) := by decide +kernel
theorem dX4_copyFrom_51 : decode cX4_copyFrom 51 = .ok (.if_icmp .ge 27, 3) := by decide +kernel
theorem dX4_copyFrom_54 : decode cX4_copyFrom 54 = .ok (.aload_n 1, 1) := by decide +kernel
theorem dX4_copyFrom_55 : decode cX4_copyFrom 55 = .ok (.getfield 27, 3) := by decide +kernel
theorem dX4_copyFrom_58 : decode cX4_copyFrom 58 = .ok (.iload_n 2, 1) := by decide +kernel
theorem dX4_copyFrom_59 : decode cX4_copyFrom 59 = .ok (.aaload, 1) := by decide +kernel
theorem dX4_copyFrom_60 : decode cX4_copyFrom 60 = .ok (.iconst 0, 1) := by decide +kernel
theorem dX4_copyFrom_61 : decode cX4_copyFrom 61 = .ok (.aload_n 0, 1) := by decide +kernel
theorem dX4_copyFrom_62 : decode cX4_copyFrom 62 = .ok (.getfield 27, 3) := by decide +kernel
theorem dX4_copyFrom_65 : decode cX4_copyFrom 65 = .ok (.iload_n 2, 1) := by decide +kernel
theorem dX4_copyFrom_66 : decode cX4_copyFrom 66 = .ok (.aaload, 1) := by decide +kernel
theorem dX4_copyFrom_67 : decode cX4_copyFrom 67 = .ok (.iconst 0, 1) := by decide +kernel
theorem dX4_copyFrom_68 : decode cX4_copyFrom 68 = .ok (.iconst 4, 1) := by decide +kernel
theorem dX4_copyFrom_69 : decode cX4_copyFrom 69 = .ok (.invokestatic 39, 3) := by decide +kernel
theorem dX4_copyFrom_72 : decode cX4_copyFrom 72 = .ok (.iinc 2 1, 3) := by decide +kernel
theorem dX4_copyFrom_75 : decode cX4_copyFrom 75 = .ok (.goto (-27), 3) := by decide +kernel
theorem dX4_copyFrom_78 : decode cX4_copyFrom 78 = .ok (.aload_n 1, 1) := by decide +kernel
theorem dX4_copyFrom_79 : decode cX4_copyFrom 79 = .ok (.getfield 30, 3) := by decide +kernel
theorem dX4_copyFrom_82 : decode cX4_copyFrom 82 = .ok (.iconst 0, 1) := by decide +kernel
theorem dX4_copyFrom_83 : decode cX4_copyFrom 83 = .ok (.aload_n 0, 1) := by decide +kernel
theorem dX4_copyFrom_84 : decode cX4_copyFrom 84 = .ok (.getfield 30, 3) := by decide +kernel
theorem dX4_copyFrom_87 : decode cX4_copyFrom 87 = .ok (.iconst 0, 1) := by decide +kernel
theorem dX4_copyFrom_88 : decode cX4_copyFrom 88 = .ok (.iconst 4, 1) := by decide +kernel
theorem dX4_copyFrom_89 : decode cX4_copyFrom 89 = .ok (.invokestatic 39, 3) := by decide +kernel
theorem dX4_copyFrom_92 : decode cX4_copyFrom 92 = .ok (.return_, 1) := by decide +kernel
theorem dX4_areJoined_0 : decode cX4_areJoined 0 = .ok (.aload_n 0, 1) := by decide +kernel
theorem dX4_areJoined_1 : decode cX4_areJoined 1 = .ok (.getfield 18, 3) := by decide +kernel
theorem dX4_areJoined_4 : decode cX4_areJoined 4 = .ok (.iload_n 1, 1) := by decide +kernel
theorem dX4_areJoined_5 : decode cX4_areJoined 5 = .ok (.iaload, 1) := by decide +kernel
theorem dX4_areJoined_6 : decode cX4_areJoined 6 = .ok (.iconst 1, 1) := by decide +kernel
theorem dX4_areJoined_7 : decode cX4_areJoined 7 = .ok (.iload_n 2, 1) := by decide +kernel
theorem dX4_areJoined_8 : decode cX4_areJoined 8 = .ok (.ishl, 1) := by decide +kernel
theorem dX4_areJoined_9 : decode cX4_areJoined 9 = .ok (.iand, 1) := by decide +kernel
theorem dX4_areJoined_10 : decode cX4_areJoined 10 = .ok (.ifCond .eq 7, 3) := by decide +kernel
theorem dX4_areJoined_13 : decode cX4_areJoined 13 = .ok (.iconst 1, 1) := by decide +kernel
theorem dX4_areJoined_14 : decode cX4_areJoined 14 = .ok (.goto 4, 3) := by decide +kernel
theorem dX4_areJoined_17 : decode cX4_areJoined 17 = .ok (.iconst 0, 1) := by decide +kernel
theorem dX4_areJoined_18 : decode cX4_areJoined 18 = .ok (.ireturn, 1) := by decide +kernel
theorem dX4_connect_0 : decode cX4_connect 0 = .ok (.iload_n 3, 1) := by decide +kernel
theorem dX4_connect_1 : decode cX4_connect 1 = .ok (.ifCond .eq 30, 3) := by decide +kernel
theorem dX4_connect_4 : decode cX4_connect 4 = .ok (.aload_n 0, 1) := by decide +kernel
theorem dX4_connect_5 : decode cX4_connect 5 = .ok (.getfield 18, 3) := by decide +kernel
theorem dX4_connect_8 : decode cX4_connect 8 = .ok (.iload_n 1, 1) := by decide +kernel
theorem dX4_connect_9 : decode cX4_connect 9 = .ok (.dup2, 1) := by decide +kernel
theorem dX4_connect_10 : decode cX4_connect 10 = .ok (.iaload, 1) := by decide +kernel
theorem dX4_connect_11 : decode cX4_connect 11 = .ok (.iconst 1, 1) := by decide +kernel
theorem dX4_connect_12 : decode cX4_connect 12 = .ok (.iload_n 2, 1) := by decide +kernel
theorem dX4_connect_13 : decode cX4_connect 13 = .ok (.ishl, 1) := by decide +kernel
theorem dX4_connect_14 : decode cX4_connect 14 = .ok (.ior, 1) := by decide +kernel
theorem dX4_connect_15 : decode cX4_connect 15 = .ok (.iastore, 1) := by decide +kernel
theorem dX4_connect_16 : decode cX4_connect 16 = .ok (.aload_n 0, 1) := by decide +kernel
theorem dX4_connect_17 : decode cX4_connect 17 = .ok (.getfield 18, 3) := by decide +kernel
theorem dX4_connect_20 : decode cX4_connect 20 = .ok (.iload_n 2, 1) := by decide +kernel
theorem dX4_connect_21 : decode cX4_connect 21 = .ok (.dup2, 1) := by decide +kernel
theorem dX4_connect_22 : decode cX4_connect 22 = .ok (.iaload, 1) := by decide +kernel
theorem dX4_connect_23 : decode cX4_connect 23 = .ok (.iconst 1, 1) := by decide +kernel
theorem dX4_connect_24 : decode cX4_connect 24 = .ok (.iload_n 1, 1) := by decide +kernel
theorem dX4_connect_25 : decode cX4_connect 25 = .ok (.ishl, 1) := by decide +kernel
theorem dX4_connect_26 : decode cX4_connect 26 = .ok (.ior, 1) := by decide +kernel
theorem dX4_connect_27 : decode cX4_connect 27 = .ok (.iastore, 1) := by decide +kernel
theorem dX4_connect_28 : decode cX4_connect 28 = .ok (.goto 31, 3) := by decide +kernel
theorem dX4_connect_31 : decode cX4_connect 31 = .ok (.aload_n 0, 1) := by decide +kernel
theorem dX4_connect_32 : decode cX4_connect 32 = .ok (.getfield 18, 3) := by decide +kernel
theorem dX4_connect_35 : decode cX4_connect 35 = .ok (.iload_n 1, 1) := by decide +kernel
theorem dX4_connect_36 : decode cX4_connect 36 = .ok (.dup2, 1) := by decide +kernel
theorem dX4_connect_37 : decode cX4_connect 37 = .ok (.iaload, 1) := by decide +kernel
theorem dX4_connect_38 : decode cX4_connect 38 = .ok (.iconst 1, 1) := by decide +kernel
theorem dX4_connect_39 : decode cX4_connect 39 = .ok (.iload_n 2, 1) := by decide +kernel
theorem dX4_connect_40 : decode cX4_connect 40 = .ok (.ishl, 1) := by decide +kernel
theorem dX4_connect_41 : decode cX4_connect 41 = .ok (.iconst (-1), 1) := by decide +kernel
theorem dX4_connect_42 : decode cX4_connect 42 = .ok (.ixor, 1) := by decide +kernel
theorem dX4_connect_43 : decode cX4_connect 43 = .ok (.iand, 1) := by decide +kernel
theorem dX4_connect_44 : decode cX4_connect 44 = .ok (.iastore, 1) := by decide +kernel
theorem dX4_connect_45 : decode cX4_connect 45 = .ok (.aload_n 0, 1) := by decide +kernel
theorem dX4_connect_46 : decode cX4_connect 46 = .ok (.getfield 18, 3) := by decide +kernel
theorem dX4_connect_49 : decode cX4_connect 49 = .ok (.iload_n 2, 1) := by decide +kernel
theorem dX4_connect_50 : decode cX4_connect 50 = .ok (.dup2, 1) := by decide +kernel
theorem dX4_connect_51 : decode cX4_connect 51 = .ok (.iaload, 1) := by decide +kernel
theorem dX4_connect_52 : decode cX4_connect 52 = .ok (.iconst 1, 1) := by decide +kernel
theorem dX4_connect_53 : decode cX4_connect 53 = .ok (.iload_n 1, 1) := by decide +kernel
theorem dX4_connect_54 : decode cX4_connect 54 = .ok (.ishl, 1) := by decide +kernel
theorem dX4_connect_55 : decode cX4_connect 55 = .ok (.iconst (-1), 1) := by decide +kernel
theorem dX4_connect_56 : decode cX4_connect 56 = .ok (.ixor, 1) := by decide +kernel
theorem dX4_connect_57 : decode cX4_connect 57 = .ok (.iand, 1) := by decide +kernel
theorem dX4_connect_58 : decode cX4_connect 58 = .ok (.iastore, 1) := by decide +kernel
theorem dX4_connect_59 : decode cX4_connect 59 = .ok (.return_, 1) := by decide +kernel
theorem dX4_edges_0 : decode cX4_edges 0 = .ok (.iconst 0, 1) := by decide +kernel
theorem dX4_edges_1 : decode cX4_edges 1 = .ok (.istore_n 1, 1) := by decide +kernel
theorem dX4_edges_2 : decode cX4_edges 2 = .ok (.iconst 0, 1) := by decide +kernel
theorem dX4_edges_3 : decode cX4_edges 3 = .ok (.istore_n 2, 1) := by decide +kernel
theorem dX4_edges_4 : decode cX4_edges 4 = .ok (.iload_n 2, 1) := by decide +kernel
theorem dX4_edges_5 : decode cX4_edges 5 = .ok (.aload_n 0, 1) := by decide +kernel
theorem dX4_edges_6 : decode cX4_edges 6 = .ok (.getfield 9, 3) := by decide +kernel
theorem dX4_edges_9 : decode cX4_edges 9 = .ok (.if_icmp .ge 21, 3) := by decide +kernel
theorem dX4_edges_12 : decode cX4_edges 12 = .ok (.iload_n 1, 1) := by decide +kernel
theorem dX4_edges_13 : decode cX4_edges 13 = .ok (.aload_n 0, 1) := by decide +kernel
theorem dX4_edges_14 : decode cX4_edges 14 = .ok (.getfield 18, 3) := by decide +kernel
theorem dX4_edges_17 : decode cX4_edges 17 = .ok (.iload_n 2, 1) := by decide +kernel
theorem dX4_edges_18 : decode cX4_edges 18 = .ok (.iaload, 1) := by decide +kernel
theorem dX4_edges_19 : decode cX4_edges 19 = .ok (.invokestatic 45, 3) := by decide +kernel
theorem dX4_edges_22 : decode cX4_edges 22 = .ok (.iadd, 1) := by decide +kernel
theorem dX4_edges_23 : decode cX4_edges 23 = .ok (.istore_n 1, 1) := by decide +kernel
theorem dX4_edges_24 : decode cX4_edges 24 = .ok (.iinc 2 1, 3) := by decide +kernel
theorem dX4_edges_27 : decode cX4_edges 27 = .ok (.goto (-23), 3) := by decide +kernel
theorem dX4_edges_30 : decode cX4_edges 30 = .ok (.iload_n 1, 1) := by decide +kernel
theorem dX4_edges_31 : decode cX4_edges 31 = .ok (.iconst 2, 1) := by decide +kernel
theorem dX4_edges_32 : decode cX4_edges 32 = .ok (.idiv, 1) := by decide +kernel
theorem dX4_edges_33 : decode cX4_edges 33 = .ok (.ireturn, 1) := by decide +kernel
theorem dX4_flipEdges_0 : decode cX4_flipEdges 0 = .ok (.iconst 1, 1) := by decide +kernel
theorem dX4_flipEdges_1 : decode cX4_flipEdges 1 = .ok (.aload_n 0, 1) := by decide +kernel
theorem dX4_flipEdges_2 : decode cX4_flipEdges 2 = .ok (.getfield 9, 3) := by decide +kernel
theorem dX4_flipEdges_5 : decode cX4_flipEdges 5 = .ok (.ishl, 1) := by decide +kernel
theorem dX4_flipEdges_6 : decode cX4_flipEdges 6 = .ok (.iconst 1, 1) := by decide +kernel
theorem dX4_flipEdges_7 : decode cX4_flipEdges 7 = .ok (.isub, 1) := by decide +kernel
theorem dX4_flipEdges_8 : decode cX4_flipEdges 8 = .ok (.istore_n 1, 1) := by decide +kernel
theorem dX4_flipEdges_9 : decode cX4_flipEdges 9 = .ok (.iconst 0, 1) := by decide +kernel
theorem dX4_flipEdges_10 : decode cX4_flipEdges 10 = .ok (.istore_n 2, 1) := by decide +kernel
theorem dX4_flipEdges_11 : decode cX4_flipEdges 11 = .ok (.iload_n 2, 1) := by decide +kernel
theorem dX4_flipEdges_12 : decode cX4_flipEdges 12 = .ok (.aload_n 0, 1) := by decide +kernel
theorem dX4_flipEdges_13 : decode cX4_flipEdges 13 = .ok (.getfield 9, 3) := by decide +kernel
theorem dX4_flipEdges_16 : decode cX4_flipEdges 16 = .ok (.if_icmp .ge 31, 3) := by decide +kernel
theorem dX4_flipEdges_19 : decode cX4_flipEdges 19 = .ok (.aload_n 0, 1) := by decide +kernel
theorem dX4_flipEdges_20 : decode cX4_flipEdges 20 = .ok (.getfield 18, 3) := by decide +kernel
theorem dX4_flipEdges_23 : decode cX4_flipEdges 23 = .ok (.iload_n 2, 1) := by decide +kernel
theorem dX4_flipEdges_24 : decode cX4_flipEdges 24 = .ok (.iload_n 1, 1) := by decide +kernel
theorem dX4_flipEdges_25 : decode cX4_flipEdges 25 = .ok (.aload_n 0, 1) := by decide +kernel
theorem dX4_flipEdges_26 : decode cX4_flipEdges 26 = .ok (.getfield 18, 3) := by decide +kernel
theorem dX4_flipEdges_29 : decode cX4_flipEdges 29 = .ok (.iload_n 2, 1) := by decide +kernel
theorem dX4_flipEdges_30 : decode cX4_flipEdges 30 = .ok (.iaload, 1) := by decide +kernel
theorem dX4_flipEdges_31 : decode cX4_flipEdges 31 = .ok (.iconst (-1), 1) := by decide +kernel
theorem dX4_flipEdges_32 : decode cX4_flipEdges 32 = .ok (.ixor, 1) := by decide +kernel
theorem dX4_flipEdges_33 : decode cX4_flipEdges 33 = .ok (.iand, 1) := by decide +kernel
theorem dX4_flipEdges_34 : decode cX4_flipEdges 34 = .ok (.iconst 1, 1) := by decide +kernel
theorem dX4_flipEdges_35 : decode cX4_flipEdges 35 = .ok (.iload_n 2, 1) := by decide +kernel
theorem dX4_flipEdges_36 : decode cX4_flipEdges 36 = .ok (.ishl, 1) := by decide +kernel
theorem dX4_flipEdges_37 : decode cX4_flipEdges 37 = .ok (.iconst (-1), 1) := by decide +kernel
theorem dX4_flipEdges_38 : decode cX4_flipEdges 38 = .ok (.ixor, 1) := by decide +kernel
theorem dX4_flipEdges_39 : decode cX4_flipEdges 39 = .ok (.iand, 1) := by decide +kernel
theorem dX4_flipEdges_40 : decode cX4_flipEdges 40 = .ok (.iastore, 1) := by decide +kernel
theorem dX4_flipEdges_41 : decode cX4_flipEdges 41 = .ok (.iinc 2 1, 3) := by decide +kernel
theorem dX4_flipEdges_44 : decode cX4_flipEdges 44 = .ok (.goto (-33), 3) := by decide +kernel
theorem dX4_flipEdges_47 : decode cX4_flipEdges 47 = .ok (.return_, 1) := by decide +kernel
theorem dX4_drop_0 : decode cX4_drop 0 = .ok (.iconst 1, 1) := by decide +kernel
theorem dX4_drop_1 : decode cX4_drop 1 = .ok (.iload_n 1, 1) := by decide +kernel
theorem dX4_drop_2 : decode cX4_drop 2 = .ok (.ishl, 1) := by decide +kernel
theorem dX4_drop_3 : decode cX4_drop 3 = .ok (.iconst 1, 1) := by decide +kernel
theorem dX4_drop_4 : decode cX4_drop 4 = .ok (.isub, 1) := by decide +kernel
theorem dX4_drop_5 : decode cX4_drop 5 = .ok (.istore_n 2, 1) := by decide +kernel
theorem dX4_drop_6 : decode cX4_drop 6 = .ok (.iconst 0, 1) := by decide +kernel
theorem dX4_drop_7 : decode cX4_drop 7 = .ok (.istore_n 3, 1) := by decide +kernel
theorem dX4_drop_8 : decode cX4_drop 8 = .ok (.iload_n 3, 1) := by decide +kernel
theorem dX4_drop_9 : decode cX4_drop 9 = .ok (.aload_n 0, 1) := by decide +kernel
theorem dX4_drop_10 : decode cX4_drop 10 = .ok (.getfield 9, 3) := by decide +kernel
theorem dX4_drop_13 : decode cX4_drop 13 = .ok (.if_icmp .ge 36, 3) := by decide +kernel
theorem dX4_drop_16 : decode cX4_drop 16 = .ok (.aload_n 0, 1) := by decide +kernel
theorem dX4_drop_17 : decode cX4_drop 17 = .ok (.getfield 18, 3) := by decide +kernel
theorem dX4_drop_20 : decode cX4_drop 20 = .ok (.iload_n 3, 1) := by decide +kernel
theorem dX4_drop_21 : decode cX4_drop 21 = .ok (.iaload, 1) := by decide +kernel
theorem dX4_drop_22 : decode cX4_drop 22 = .ok (.istore 4, 2) := by decide +kernel
theorem dX4_drop_24 : decode cX4_drop 24 = .ok (.aload_n 0, 1) := by decide +kernel
theorem dX4_drop_25 : decode cX4_drop 25 = .ok (.getfield 18, 3) := by decide +kernel
theorem dX4_drop_28 : decode cX4_drop 28 = .ok (.iload_n 3, 1) := by decide +kernel
theorem dX4_drop_29 : decode cX4_drop 29 = .ok (.iload 4, 2) := by decide +kernel
theorem dX4_drop_31 : decode cX4_drop 31 = .ok (.iload_n 2, 1) := by decide +kernel
theorem dX4_drop_32 : decode cX4_drop 32 = .ok (.iand, 1) := by decide +kernel
theorem dX4_drop_33 : decode cX4_drop 33 = .ok (.iload 4, 2) := by decide +kernel
theorem dX4_drop_35 : decode cX4_drop 35 = .ok (.iconst 1, 1) := by decide +kernel
theorem dX4_drop_36 : decode cX4_drop 36 = .ok (.ishr, 1) := by decide +kernel
theorem dX4_drop_37 : decode cX4_drop 37 = .ok (.iload_n 2, 1) := by decide +kernel
theorem dX4_drop_38 : decode cX4_drop 38 = .ok (.iconst (-1), 1) := by decide +kernel
theorem dX4_drop_39 : decode cX4_drop 39 = .ok (.ixor, 1) := by decide +kernel
theorem dX4_drop_40 : decode cX4_drop 40 = .ok (.iand, 1) := by decide +kernel
theorem dX4_drop_41 : decode cX4_drop 41 = .ok (.ior, 1) := by decide +kernel
theorem dX4_drop_42 : decode cX4_drop 42 = .ok (.iastore, 1) := by decide +kernel
theorem dX4_drop_43 : decode cX4_drop 43 = .ok (.iinc 3 1, 3) := by decide +kernel
theorem dX4_drop_46 : decode cX4_drop 46 = .ok (.goto (-38), 3) := by decide +kernel
theorem dX4_drop_49 : decode cX4_drop 49 = .ok (.iload_n 1, 1) := by decide +kernel
theorem dX4_drop_50 : decode cX4_drop 50 = .ok (.istore_n 3, 1) := by decide +kernel
theorem dX4_drop_51 : decode cX4_drop 51 = .ok (.iload_n 3, 1) := by decide +kernel
theorem dX4_drop_52 : decode cX4_drop 52 = .ok (.iconst 1, 1) := by decide +kernel
theorem dX4_drop_53 : decode cX4_drop 53 = .ok (.iadd, 1) := by decide +kernel
theorem dX4_drop_54 : decode cX4_drop 54 = .ok (.aload_n 0, 1) := by decide +kernel
theorem dX4_drop_55 : decode cX4_drop 55 = .ok (.getfield 9, 3) := by decide +kernel
theorem dX4_drop_58 : decode cX4_drop 58 = .ok (.if_icmp .ge 57, 3) := by decide +kernel
theorem dX4_drop_61 : decode cX4_drop 61 = .ok (.aload_n 0, 1) := by decide +kernel
theorem dX4_drop_62 : decode cX4_drop 62 = .ok (.getfield 18, 3) := by decide +kernel
theorem dX4_drop_65 : decode cX4_drop 65 = .ok (.iload_n 3, 1) := by decide +kernel
theorem dX4_drop_66 : decode cX4_drop 66 = .ok (.aload_n 0, 1) := by decide +kernel
theorem dX4_drop_67 : decode cX4_drop 67 = .ok (.getfield 18, 3) := by decide +kernel
theorem dX4_drop_70 : decode cX4_drop 70 = .ok (.iload_n 3, 1) := by decide +kernel
theorem dX4_drop_71 : decode cX4_drop 71 = .ok (.iconst 1, 1) := by decide +kernel
theorem dX4_drop_72 : decode cX4_drop 72 = .ok (.iadd, 1) := by decide +kernel
theorem dX4_drop_73 : decode cX4_drop 73 = .ok (.iaload, 1) := by decide +kernel
theorem dX4_drop_74 : decode cX4_drop 74 = .ok (.iastore, 1) := by decide +kernel
theorem dX4_drop_75 : decode cX4_drop 75 = .ok (.aload_n 0, 1) := by decide +kernel
theorem dX4_drop_76 : decode cX4_drop 76 = .ok (.getfield 22, 3) := by decide +kernel
theorem dX4_drop_79 : decode cX4_drop 79 = .ok (.iload_n 3, 1) := by decide +kernel
theorem dX4_drop_80 : decode cX4_drop 80 = .ok (.aload_n 0, 1) := by decide +kernel
theorem dX4_drop_81 : decode cX4_drop 81 = .ok (.getfield 22, 3) := by decide +kernel
theorem dX4_drop_84 : decode cX4_drop 84 = .ok (.iload_n 3, 1) := by decide +kernel
theorem dX4_drop_85 : decode cX4_drop 85 = .ok (.iconst 1, 1) := by decide +kernel
theorem dX4_drop_86 : decode cX4_drop 86 = .ok (.iadd, 1) := by decide +kernel
theorem dX4_drop_87 : decode cX4_drop 87 = .ok (.iaload, 1) := by decide +kernel
theorem dX4_drop_88 : decode cX4_drop 88 = .ok (.iastore, 1) := by decide +kernel
theorem dX4_drop_89 : decode cX4_drop 89 = .ok (.aload_n 0, 1) := by decide +kernel
theorem dX4_drop_90 : decode cX4_drop 90 = .ok (.getfield 27, 3) := by decide +kernel
theorem dX4_drop_93 : decode cX4_drop 93 = .ok (.iload_n 3, 1) := by decide +kernel
theorem dX4_drop_94 : decode cX4_drop 94 = .ok (.iconst 1, 1) := by decide +kernel
theorem dX4_drop_95 : decode cX4_drop 95 = .ok (.iadd, 1) := by decide +kernel
theorem dX4_drop_96 : decode cX4_drop 96 = .ok (.aaload, 1) := by decide +kernel
theorem dX4_drop_97 : decode cX4_drop 97 = .ok (.iconst 0, 1) := by decide +kernel
theorem dX4_drop_98 : decode cX4_drop 98 = .ok (.aload_n 0, 1) := by decide +kernel
theorem dX4_drop_99 : decode cX4_drop 99 = .ok (.getfield 27, 3) := by decide +kernel
theorem dX4_drop_102 : decode cX4_drop 102 = .ok (.iload_n 3, 1) := by decide +kernel
theorem dX4_drop_103 : decode cX4_drop 103 = .ok (.aaload, 1) := by decide +kernel
theorem dX4_drop_104 : decode cX4_drop 104 = .ok (.iconst 0, 1) := by decide +kernel
theorem dX4_drop_105 : decode cX4_drop 105 = .ok (.iconst 4, 1) := by decide +kernel
theorem dX4_drop_106 : decode cX4_drop 106 = .ok (.invokestatic 39, 3) := by decide +kernel
theorem dX4_drop_109 : decode cX4_drop 109 = .ok (.iinc 3 1, 3) := by decide +kernel
theorem dX4_drop_112 : decode cX4_drop 112 = .ok (.goto (-61), 3) := by decide +kernel
theorem dX4_drop_115 : decode cX4_drop 115 = .ok (.aload_n 0, 1) := by decide +kernel
theorem dX4_drop_116 : decode cX4_drop 116 = .ok (.dup, 1) := by decide +kernel
theorem dX4_drop_117 : decode cX4_drop 117 = .ok (.getfield 9, 3) := by decide +kernel
theorem dX4_drop_120 : decode cX4_drop 120 = .ok (.iconst 1, 1) := by decide +kernel
theorem dX4_drop_121 : decode cX4_drop 121 = .ok (.isub, 1) := by decide +kernel
theorem dX4_drop_122 : decode cX4_drop 122 = .ok (.putfield 9, 3) := by decide +kernel
theorem dX4_drop_125 : decode cX4_drop 125 = .ok (.return_, 1) := by decide +kernel
theorem dX4_unfit_0 : decode cX4_unfit 0 = .ok (.aload_n 0, 1) := by decide +kernel
theorem dX4_unfit_1 : decode cX4_unfit 1 = .ok (.iload_n 1, 1) := by decide +kernel
theorem dX4_unfit_2 : decode cX4_unfit 2 = .ok (.iload_n 2, 1) := by decide +kernel
theorem dX4_unfit_3 : decode cX4_unfit 3 = .ok (.invokevirtual 63, 3) := by decide +kernel
theorem dX4_unfit_6 : decode cX4_unfit 6 = .ok (.ifCond .eq 25, 3) := by decide +kernel
theorem dX4_unfit_9 : decode cX4_unfit 9 = .ok (.aload_n 0, 1) := by decide +kernel
theorem dX4_unfit_10 : decode cX4_unfit 10 = .ok (.getfield 27, 3) := by decide +kernel
theorem dX4_unfit_13 : decode cX4_unfit 13 = .ok (.iload_n 1, 1) := by decide +kernel
theorem dX4_unfit_14 : decode cX4_unfit 14 = .ok (.aaload, 1) := by decide +kernel
theorem dX4_unfit_15 : decode cX4_unfit 15 = .ok (.aload_n 0, 1) := by decide +kernel
theorem dX4_unfit_16 : decode cX4_unfit 16 = .ok (.getfield 27, 3) := by decide +kernel
theorem dX4_unfit_19 : decode cX4_unfit 19 = .ok (.iload_n 2, 1) := by decide +kernel
theorem dX4_unfit_20 : decode cX4_unfit 20 = .ok (.aaload, 1) := by decide +kernel
theorem dX4_unfit_21 : decode cX4_unfit 21 = .ok (.invokestatic 85, 3) := by decide +kernel
theorem dX4_unfit_24 : decode cX4_unfit 24 = .ok (.ifCond .eq 7, 3) := by decide +kernel
theorem dX4_unfit_27 : decode cX4_unfit 27 = .ok (.iconst 1, 1) := by decide +kernel
theorem dX4_unfit_28 : decode cX4_unfit 28 = .ok (.goto 4, 3) := by decide +kernel
theorem dX4_unfit_31 : decode cX4_unfit 31 = .ok (.iconst 0, 1) := by decide +kernel
theorem dX4_unfit_32 : decode cX4_unfit 32 = .ok (.ireturn, 1) := by decide +kernel
theorem dX4_unfitPairs_0 : decode cX4_unfitPairs 0 = .ok (.iconst 0, 1) := by decide +kernel
theorem dX4_unfitPairs_1 : decode cX4_unfitPairs 1 = .ok (.istore_n 1, 1) := by decide +kernel
theorem dX4_unfitPairs_2 : decode cX4_unfitPairs 2 = .ok (.iconst 0, 1) := by decide +kernel
theorem dX4_unfitPairs_3 : decode cX4_unfitPairs 3 = .ok (.istore_n 2, 1) := by decide +kernel
theorem dX4_unfitPairs_4 : decode cX4_unfitPairs 4 = .ok (.iload_n 2, 1) := by decide +kernel
theorem dX4_unfitPairs_5 : decode cX4_unfitPairs 5 = .ok (.aload_n 0, 1) := by decide +kernel
theorem dX4_unfitPairs_6 : decode cX4_unfitPairs 6 = .ok (.getfield 9, 3) := by decide +kernel
theorem dX4_unfitPairs_9 : decode cX4_unfitPairs 9 = .ok (.if_icmp .ge 44, 3) := by decide +kernel
theorem dX4_unfitPairs_12 : decode cX4_unfitPairs 12 = .ok (.iload_n 2, 1) := by decide +kernel
theorem dX4_unfitPairs_13 : decode cX4_unfitPairs 13 = .ok (.iconst 1, 1) := by decide +kernel
theorem dX4_unfitPairs_14 : decode cX4_unfitPairs 14 = .ok (.iadd, 1) := by decide +kernel
theorem dX4_unfitPairs_15 : decode cX4_unfitPairs 15 = .ok (.istore_n 3, 1) := by decide +kernel
theorem dX4_unfitPairs_16 : decode cX4_unfitPairs 16 = .ok (.iload_n 3, 1) := by decide +kernel
theorem dX4_unfitPairs_17 : decode cX4_unfitPairs 17 = .ok (.aload_n 0, 1) := by decide +kernel
theorem dX4_unfitPairs_18 : decode cX4_unfitPairs 18 = .ok (.getfield 9, 3) := by decide +kernel
theorem dX4_unfitPairs_21 : decode cX4_unfitPairs 21 = .ok (.if_icmp .ge 26, 3) := by decide +kernel
theorem dX4_unfitPairs_24 : decode cX4_unfitPairs 24 = .ok (.iload_n 1, 1) := by decide +kernel
theorem dX4_unfitPairs_25 : decode cX4_unfitPairs 25 = .ok (.aload_n 0, 1) := by decide +kernel
theorem dX4_unfitPairs_26 : decode cX4_unfitPairs 26 = .ok (.iload_n 2, 1) := by decide +kernel
theorem dX4_unfitPairs_27 : decode cX4_unfitPairs 27 = .ok (.iload_n 3, 1) := by decide +kernel
theorem dX4_unfitPairs_28 : decode cX4_unfitPairs 28 = .ok (.invokevirtual 89, 3) := by decide +kernel
theorem dX4_unfitPairs_31 : decode cX4_unfitPairs 31 = .ok (.ifCond .eq 7, 3) := by decide +kernel
theorem dX4_unfitPairs_34 : decode cX4_unfitPairs 34 = .ok (.iconst 1, 1) := by decide +kernel
theorem dX4_unfitPairs_35 : decode cX4_unfitPairs 35 = .ok (.goto 4, 3) := by decide +kernel
theorem dX4_unfitPairs_38 : decode cX4_unfitPairs 38 = .ok (.iconst 0, 1) := by decide +kernel
theorem dX4_unfitPairs_39 : decode cX4_unfitPairs 39 = .ok (.iadd, 1) := by decide +kernel
theorem dX4_unfitPairs_40 : decode cX4_unfitPairs 40 = .ok (.istore_n 1, 1) := by decide +kernel
theorem dX4_unfitPairs_41 : decode cX4_unfitPairs 41 = .ok (.iinc 3 1, 3) := by decide +kernel
theorem dX4_unfitPairs_44 : decode cX4_unfitPairs 44 = .ok (.goto (-28), 3) := by decide +kernel
theorem dX4_unfitPairs_47 : decode cX4_unfitPairs 47 = .ok (.iinc 2 1, 3) := by decide +kernel
theorem dX4_unfitPairs_50 : decode cX4_unfitPairs 50 = .ok (.goto (-46), 3) := by decide +kernel
theorem dX4_unfitPairs_53 : decode cX4_unfitPairs 53 = .ok (.iload_n 1, 1) := by decide +kernel
theorem dX4_unfitPairs_54 : decode cX4_unfitPairs 54 = .ok (.ireturn, 1) := by decide +kernel
theorem dX4_unfitPartner_0 : decode cX4_unfitPartner 0 = .ok (.iload_n 1, 1) := by decide +kernel
theorem dX4_unfitPartner_1 : decode cX4_unfitPartner 1 = .ok (.iconst 1, 1) := by decide +kernel
theorem dX4_unfitPartner_2 : decode cX4_unfitPartner 2 = .ok (.iadd, 1) := by decide +kernel
theorem dX4_unfitPartner_3 : decode cX4_unfitPartner 3 = .ok (.istore_n 2, 1) := by decide +kernel
theorem dX4_unfitPartner_4 : decode cX4_unfitPartner 4 = .ok (.iload_n 2, 1) := by decide +kernel
theorem dX4_unfitPartner_5 : decode cX4_unfitPartner 5 = .ok (.aload_n 0, 1) := by decide +kernel
theorem dX4_unfitPartner_6 : decode cX4_unfitPartner 6 = .ok (.getfield 9, 3) := by decide +kernel
theorem dX4_unfitPartner_9 : decode cX4_unfitPartner 9 = .ok (.if_icmp .ge 20, 3) := by decide +kernel
theorem dX4_unfitPartner_12 : decode cX4_unfitPartner 12 = .ok (.aload_n 0, 1) := by decide +kernel
theorem dX4_unfitPartner_13 : decode cX4_unfitPartner 13 = .ok (.iload_n 1, 1) := by decide +kernel
theorem dX4_unfitPartner_14 : decode cX4_unfitPartner 14 = .ok (.iload_n 2, 1) := by decide +kernel
theorem dX4_unfitPartner_15 : decode cX4_unfitPartner 15 = .ok (.invokevirtual 89, 3) := by decide +kernel
theorem dX4_unfitPartner_18 : decode cX4_unfitPartner 18 = .ok (.ifCond .eq 5, 3) := by decide +kernel
theorem dX4_unfitPartner_21 : decode cX4_unfitPartner 21 = .ok (.iload_n 2, 1) := by decide +kernel
theorem dX4_unfitPartner_22 : decode cX4_unfitPartner 22 = .ok (.ireturn, 1) := by decide +kernel
theorem dX4_unfitPartner_23 : decode cX4_unfitPartner 23 = .ok (.iinc 2 1, 3) := by decide +kernel
theorem dX4_unfitPartner_26 : decode cX4_unfitPartner 26 = .ok (.goto (-22), 3) := by decide +kernel
theorem dX4_unfitPartner_29 : decode cX4_unfitPartner 29 = .ok (.iconst (-1), 1) := by decide +kernel
theorem dX4_unfitPartner_30 : decode cX4_unfitPartner 30 = .ok (.ireturn, 1) := by decide +kernel
theorem dX4_firstUnfit_0 : decode cX4_firstUnfit 0 = .ok (.iconst 0, 1) := by decide +kernel
theorem dX4_firstUnfit_1 : decode cX4_firstUnfit 1 = .ok (.istore_n 1, 1) := by decide +kernel
theorem dX4_firstUnfit_2 : decode cX4_firstUnfit 2 = .ok (.iload_n 1, 1) := by decide +kernel
theorem dX4_firstUnfit_3 : decode cX4_firstUnfit 3 = .ok (.aload_n 0, 1) := by decide +kernel
theorem dX4_firstUnfit_4 : decode cX4_firstUnfit 4 = .ok (.getfield 9, 3) := by decide +kernel
theorem dX4_firstUnfit_7 : decode cX4_firstUnfit 7 = .ok (.if_icmp .ge 20, 3) := by decide +kernel
theorem dX4_firstUnfit_10 : decode cX4_firstUnfit 10 = .ok (.aload_n 0, 1) := by decide +kernel
theorem dX4_firstUnfit_11 : decode cX4_firstUnfit 11 = .ok (.iload_n 1, 1) := by decide +kernel
theorem dX4_firstUnfit_12 : decode cX4_firstUnfit 12 = .ok (.invokevirtual 92, 3) := by decide +kernel
theorem dX4_firstUnfit_15 : decode cX4_firstUnfit 15 = .ok (.iconst (-1), 1) := by decide +kernel
theorem dX4_firstUnfit_16 : decode cX4_firstUnfit 16 = .ok (.if_icmp .eq 5, 3) := by decide +kernel
theorem dX4_firstUnfit_19 : decode cX4_firstUnfit 19 = .ok (.iload_n 1, 1) := by decide +kernel
theorem dX4_firstUnfit_20 : decode cX4_firstUnfit 20 = .ok (.ireturn, 1) := by decide +kernel
theorem dX4_firstUnfit_21 : decode cX4_firstUnfit 21 = .ok (.iinc 1 1, 3) := by decide +kernel
theorem dX4_firstUnfit_24 : decode cX4_firstUnfit 24 = .ok (.goto (-22), 3) := by decide +kernel
theorem dX4_firstUnfit_27 : decode cX4_firstUnfit 27 = .ok (.iconst (-1), 1) := by decide +kernel
theorem dX4_firstUnfit_28 : decode cX4_firstUnfit 28 = .ok (.ireturn, 1) := by decide +kernel
theorem dX4_firstMissed_0 : decode cX4_firstMissed 0 = .ok (.iconst 0, 1) := by decide +kernel
theorem dX4_firstMissed_1 : decode cX4_firstMissed 1 = .ok (.istore_n 2, 1) := by decide +kernel
theorem dX4_firstMissed_2 : decode cX4_firstMissed 2 = .ok (.iload_n 2, 1) := by decide +kernel
theorem dX4_firstMissed_3 : decode cX4_firstMissed 3 = .ok (.aload_n 0, 1) := by decide +kernel
theorem dX4_firstMissed_4 : decode cX4_firstMissed 4 = .ok (.getfield 9, 3) := by decide +kernel
theorem dX4_firstMissed_7 : decode cX4_firstMissed 7 = .ok (.if_icmp .ge 33, 3) := by decide +kernel
theorem dX4_firstMissed_10 : decode cX4_firstMissed 10 = .ok (.aload_n 0, 1) := by decide +kernel
theorem dX4_firstMissed_11 : decode cX4_firstMissed 11 = .ok (.getfield 22, 3) := by decide +kernel
theorem dX4_firstMissed_14 : decode cX4_firstMissed 14 = .ok (.iload_n 2, 1) := by decide +kernel
theorem dX4_firstMissed_15 : decode cX4_firstMissed 15 = .ok (.iaload, 1) := by decide +kernel
theorem dX4_firstMissed_16 : decode cX4_firstMissed 16 = .ok (.ifCond .le 18, 3) := by decide +kernel
theorem dX4_firstMissed_19 : decode cX4_firstMissed 19 = .ok (.aload_n 1, 1) := by decide +kernel
theorem dX4_firstMissed_20 : decode cX4_firstMissed 20 = .ok (.aload_n 0, 1) := by decide +kernel
theorem dX4_firstMissed_21 : decode cX4_firstMissed 21 = .ok (.getfield 27, 3) := by decide +kernel
theorem dX4_firstMissed_24 : decode cX4_firstMissed 24 = .ok (.iload_n 2, 1) := by decide +kernel
theorem dX4_firstMissed_25 : decode cX4_firstMissed 25 = .ok (.aaload, 1) := by decide +kernel
theorem dX4_firstMissed_26 : decode cX4_firstMissed 26 = .ok (.invokestatic 85, 3) := by decide +kernel
theorem dX4_firstMissed_29 : decode cX4_firstMissed 29 = .ok (.ifCond .ne 5, 3) := by decide +kernel
theorem dX4_firstMissed_32 : decode cX4_firstMissed 32 = .ok (.iload_n 2, 1) := by decide +kernel
theorem dX4_firstMissed_33 : decode cX4_firstMissed 33 = .ok (.ireturn, 1) := by decide +kernel
theorem dX4_firstMissed_34 : decode cX4_firstMissed 34 = .ok (.iinc 2 1, 3) := by decide +kernel
theorem dX4_firstMissed_37 : decode cX4_firstMissed 37 = .ok (.goto (-35), 3) := by decide +kernel
theorem dX4_firstMissed_40 : decode cX4_firstMissed 40 = .ok (.iconst (-1), 1) := by decide +kernel
theorem dX4_firstMissed_41 : decode cX4_firstMissed 41 = .ok (.ireturn, 1) := by decide +kernel
theorem dX5_init_0 : decode cX5_init 0 = .ok (.aload_n 0, 1) := by decide +kernel
theorem dX5_init_1 : decode cX5_init 1 = .ok (.invokespecial 3, 3) := by decide +kernel
theorem dX5_init_4 : decode cX5_init 4 = .ok (.aload_n 0, 1) := by decide +kernel
theorem dX5_init_5 : decode cX5_init 5 = .ok (.iconst 4, 1) := by decide +kernel
theorem dX5_init_6 : decode cX5_init 6 = .ok (.newarray .int, 2) := by decide +kernel
theorem dX5_init_8 : decode cX5_init 8 = .ok (.putfield 9, 3) := by decide +kernel
theorem dX5_init_11 : decode cX5_init 11 = .ok (.aload_n 0, 1) := by decide +kernel
theorem dX5_init_12 : decode cX5_init 12 = .ok (.new 15, 3) := by decide +kernel
theorem dX5_init_15 : decode cX5_init 15 = .ok (.dup, 1) := by decide +kernel
theorem dX5_init_16 : decode cX5_init 16 = .ok (.invokespecial 17, 3) := by decide +kernel
theorem dX5_init_19 : decode cX5_init 19 = .ok (.putfield 18, 3) := by decide +kernel
theorem dX5_init_22 : decode cX5_init 22 = .ok (.aload_n 0, 1) := by decide +kernel
theorem dX5_init_23 : decode cX5_init 23 = .ok (.iconst 4, 1) := by decide +kernel
theorem dX5_init_24 : decode cX5_init 24 = .ok (.newarray .int, 2) := by decide +kernel
theorem dX5_init_26 : decode cX5_init 26 = .ok (.putfield 22, 3) := by decide +kernel
theorem dX5_init_29 : decode cX5_init 29 = .ok (.aload_n 0, 1) := by decide +kernel
theorem dX5_init_30 : decode cX5_init 30 = .ok (.new 15, 3) := by decide +kernel
theorem dX5_init_33 : decode cX5_init 33 = .ok (.dup, 1) := by decide +kernel
theorem dX5_init_34 : decode cX5_init 34 = .ok (.invokespecial 17, 3) := by decide +kernel
theorem dX5_init_37 : decode cX5_init 37 = .ok (.putfield 25, 3) := by decide +kernel
theorem dX5_init_40 : decode cX5_init 40 = .ok (.return_, 1) := by decide +kernel
theorem dX6_init_0 : decode cX6_init 0 = .ok (.aload_n 0, 1) := by decide +kernel
theorem dX6_init_1 : decode cX6_init 1 = .ok (.invokespecial 3, 3) := by decide +kernel
theorem dX6_init_4 : decode cX6_init 4 = .ok (.aload_n 0, 1) := by decide +kernel
theorem dX6_init_5 : decode cX6_init 5 = .ok (.bipush 6, 2) := by decide +kernel
theorem dX6_init_7 : decode cX6_init 7 = .ok (.anewarray 9, 3) := by decide +kernel
theorem dX6_init_10 : decode cX6_init 10 = .ok (.putfield 11, 3) := by decide +kernel
theorem dX6_init_13 : decode cX6_init 13 = .ok (.aload_n 0, 1) := by decide +kernel
theorem dX6_init_14 : decode cX6_init 14 = .ok (.bipush 6, 2) := by decide +kernel
theorem dX6_init_16 : decode cX6_init 16 = .ok (.newarray .int, 2) := by decide +kernel
theorem dX6_init_18 : decode cX6_init 18 = .ok (.putfield 17, 3) := by decide +kernel
theorem dX6_init_21 : decode cX6_init 21 = .ok (.aload_n 0, 1) := by decide +kernel
theorem dX6_init_22 : decode cX6_init 22 = .ok (.iconst 0, 1) := by decide +kernel
theorem dX6_init_23 : decode cX6_init 23 = .ok (.putfield 21, 3) := by decide +kernel
theorem dX6_init_26 : decode cX6_init 26 = .ok (.aload_n 0, 1) := by decide +kernel
theorem dX6_init_27 : decode cX6_init 27 = .ok (.iconst 0, 1) := by decide +kernel
theorem dX6_init_28 : decode cX6_init 28 = .ok (.putfield 25, 3) := by decide +kernel
theorem dX6_init_31 : decode cX6_init 31 = .ok (.iconst 0, 1) := by decide +kernel
theorem dX6_init_32 : decode cX6_init 32 = .ok (.istore_n 1, 1) := by decide +kernel
theorem dX6_init_33 : decode cX6_init 33 = .ok (.iload_n 1, 1) := by decide +kernel
theorem dX6_init_34 : decode cX6_init 34 = .ok (.bipush 6, 2) := by decide +kernel
theorem dX6_init_36 : decode cX6_init 36 = .ok (.if_icmp .ge 22, 3) := by decide +kernel
theorem dX6_init_39 : decode cX6_init 39 = .ok (.aload_n 0, 1) := by decide +kernel
theorem dX6_init_40 : decode cX6_init 40 = .ok (.getfield 11, 3) := by decide +kernel
theorem dX6_init_43 : decode cX6_init 43 = .ok (.iload_n 1, 1) := by decide +kernel
theorem dX6_init_44 : decode cX6_init 44 = .ok (.new 9, 3) := by decide +kernel
theorem dX6_init_47 : decode cX6_init 47 = .ok (.dup, 1) := by decide +kernel
theorem dX6_init_48 : decode cX6_init 48 = .ok (.invokespecial 28, 3) := by decide +kernel
theorem dX6_init_51 : decode cX6_init 51 = .ok (.aastore, 1) := by decide +kernel
theorem dX6_init_52 : decode cX6_init 52 = .ok (.iinc 1 1, 3) := by decide +kernel
theorem dX6_init_55 : decode cX6_init 55 = .ok (.goto (-22), 3) := by decide +kernel
theorem dX6_init_58 : decode cX6_init 58 = .ok (.return_, 1) := by decide +kernel
theorem dX6_save_0 : decode cX6_save 0 = .ok (.aload_n 0, 1) := by decide +kernel
theorem dX6_save_1 : decode cX6_save 1 = .ok (.aload_n 0, 1) := by decide +kernel
theorem dX6_save_2 : decode cX6_save 2 = .ok (.getfield 21, 3) := by decide +kernel
theorem dX6_save_5 : decode cX6_save 5 = .ok (.iconst 1, 1) := by decide +kernel
theorem dX6_save_6 : decode cX6_save 6 = .ok (.iadd, 1) := by decide +kernel
theorem dX6_save_7 : decode cX6_save 7 = .ok (.bipush 6, 2) := by decide +kernel
theorem dX6_save_9 : decode cX6_save 9 = .ok (.if_icmp .ge 12, 3) := by decide +kernel
theorem dX6_save_12 : decode cX6_save 12 = .ok (.aload_n 0, 1) := by decide +kernel
theorem dX6_save_13 : decode cX6_save 13 = .ok (.getfield 21, 3) := by decide +kernel
theorem dX6_save_16 : decode cX6_save 16 = .ok (.iconst 1, 1) := by decide +kernel
theorem dX6_save_17 : decode cX6_save 17 = .ok (.iadd, 1) := by decide +kernel
theorem dX6_save_18 : decode cX6_save 18 = .ok (.goto 4, 3) := by decide +kernel
theorem dX6_save_21 : decode cX6_save 21 = .ok (.iconst 0, 1) := by decide +kernel
theorem dX6_save_22 : decode cX6_save 22 = .ok (.putfield 21, 3) := by decide +kernel
theorem dX6_save_25 : decode cX6_save 25 = .ok (.aload_n 0, 1) := by decide +kernel
theorem dX6_save_26 : decode cX6_save 26 = .ok (.getfield 11, 3) := by decide +kernel
theorem dX6_save_29 : decode cX6_save 29 = .ok (.aload_n 0, 1) := by decide +kernel
theorem dX6_save_30 : decode cX6_save 30 = .ok (.getfield 21, 3) := by decide +kernel
theorem dX6_save_33 : decode cX6_save 33 = .ok (.aaload, 1) := by decide +kernel
theorem dX6_save_34 : decode cX6_save 34 = .ok (.aload_n 1, 1) := by decide +kernel
theorem dX6_save_35 : decode cX6_save 35 = .ok (.invokevirtual 29, 3) := by decide +kernel
theorem dX6_save_38 : decode cX6_save 38 = .ok (.aload_n 0, 1) := by decide +kernel
theorem dX6_save_39 : decode cX6_save 39 = .ok (.getfield 17, 3) := by decide +kernel
theorem dX6_save_42 : decode cX6_save 42 = .ok (.aload_n 0, 1) := by decide +kernel
theorem dX6_save_43 : decode cX6_save 43 = .ok (.getfield 21, 3) := by decide +kernel
theorem dX6_save_46 : decode cX6_save 46 = .ok (.iload_n 2, 1) := by decide +kernel
theorem dX6_save_47 : decode cX6_save 47 = .ok (.iastore, 1) := by decide +kernel
theorem dX6_save_48 : decode cX6_save 48 = .ok (.aload_n 0, 1) := by decide +kernel
theorem dX6_save_49 : decode cX6_save 49 = .ok (.aload_n 0, 1) := by decide +kernel
theorem dX6_save_50 : decode cX6_save 50 = .ok (.getfield 25, 3) := by decide +kernel
theorem dX6_save_53 : decode cX6_save 53 = .ok (.iconst 1, 1) := by decide +kernel
theorem dX6_save_54 : decode cX6_save 54 = .ok (.iadd, 1) := by decide +kernel
theorem dX6_save_55 : decode cX6_save 55 = .ok (.bipush 6, 2) := by decide +kernel
theorem dX6_save_57 : decode cX6_save 57 = .ok (.invokestatic 33, 3) := by decide +kernel
theorem dX6_save_60 : decode cX6_save 60 = .ok (.putfield 25, 3) := by decide +kernel
theorem dX6_save_63 : decode cX6_save 63 = .ok (.return_, 1) := by decide +kernel
theorem dX7_init_0 : decode cX7_init 0 = .ok (.aload_n 0, 1) := by decide +kernel
theorem dX7_init_1 : decode cX7_init 1 = .ok (.invokespecial 3, 3) := by decide +kernel
theorem dX7_init_4 : decode cX7_init 4 = .ok (.aload_n 0, 1) := by decide +kernel
theorem dX7_init_5 : decode cX7_init 5 = .ok (.new 9, 3) := by decide +kernel
theorem dX7_init_8 : decode cX7_init 8 = .ok (.dup, 1) := by decide +kernel
theorem dX7_init_9 : decode cX7_init 9 = .ok (.invokespecial 11, 3) := by decide +kernel
theorem dX7_init_12 : decode cX7_init 12 = .ok (.putfield 12, 3) := by decide +kernel
theorem dX7_init_15 : decode cX7_init 15 = .ok (.aload_n 0, 1) := by decide +kernel
theorem dX7_init_16 : decode cX7_init 16 = .ok (.iconst 2, 1) := by decide +kernel
theorem dX7_init_17 : decode cX7_init 17 = .ok (.anewarray 9, 3) := by decide +kernel
theorem dX7_init_20 : decode cX7_init 20 = .ok (.putfield 16, 3) := by decide +kernel
theorem dX7_init_23 : decode cX7_init 23 = .ok (.aload_n 0, 1) := by decide +kernel
theorem dX7_init_24 : decode cX7_init 24 = .ok (.iconst 2, 1) := by decide +kernel
theorem dX7_init_25 : decode cX7_init 25 = .ok (.newarray .boolean, 2) := by decide +kernel
theorem dX7_init_27 : decode cX7_init 27 = .ok (.putfield 20, 3) := by decide +kernel
theorem dX7_init_30 : decode cX7_init 30 = .ok (.aload_n 0, 1) := by decide +kernel
theorem dX7_init_31 : decode cX7_init 31 = .ok (.new 24, 3) := by decide +kernel
theorem dX7_init_34 : decode cX7_init 34 = .ok (.dup, 1) := by decide +kernel
theorem dX7_init_35 : decode cX7_init 35 = .ok (.invokespecial 26, 3) := by decide +kernel
theorem dX7_init_38 : decode cX7_init 38 = .ok (.putfield 27, 3) := by decide +kernel
theorem dX7_init_41 : decode cX7_init 41 = .ok (.aload_n 0, 1) := by decide +kernel
theorem dX7_init_42 : decode cX7_init 42 = .ok (.new 31, 3) := by decide +kernel
theorem dX7_init_45 : decode cX7_init 45 = .ok (.dup, 1) := by decide +kernel
theorem dX7_init_46 : decode cX7_init 46 = .ok (.invokespecial 33, 3) := by decide +kernel
theorem dX7_init_49 : decode cX7_init 49 = .ok (.putfield 34, 3) := by decide +kernel
theorem dX7_init_52 : decode cX7_init 52 = .ok (.aload_n 0, 1) := by decide +kernel
theorem dX7_init_53 : decode cX7_init 53 = .ok (.new 38, 3) := by decide +kernel
theorem dX7_init_56 : decode cX7_init 56 = .ok (.dup, 1) := by decide +kernel
theorem dX7_init_57 : decode cX7_init 57 = .ok (.invokespecial 40, 3) := by decide +kernel
theorem dX7_init_60 : decode cX7_init 60 = .ok (.putfield 41, 3) := by decide +kernel
theorem dX7_init_63 : decode cX7_init 63 = .ok (.aload_n 0, 1) := by decide +kernel
theorem dX7_init_64 : decode cX7_init 64 = .ok (.new 45, 3) := by decide +kernel
theorem dX7_init_67 : decode cX7_init 67 = .ok (.dup, 1) := by decide +kernel
theorem dX7_init_68 : decode cX7_init 68 = .ok (.invokespecial 47, 3) := by decide +kernel
theorem dX7_init_71 : decode cX7_init 71 = .ok (.putfield 48, 3) := by decide +kernel
theorem dX7_init_74 : decode cX7_init 74 = .ok (.aload_n 0, 1) := by decide +kernel
theorem dX7_init_75 : decode cX7_init 75 = .ok (.new 52, 3) := by decide +kernel
theorem dX7_init_78 : decode cX7_init 78 = .ok (.dup, 1) := by decide +kernel
theorem dX7_init_79 : decode cX7_init 79 = .ok (.invokespecial 54, 3) := by decide +kernel
theorem dX7_init_82 : decode cX7_init 82 = .ok (.putfield 55, 3) := by decide +kernel
theorem dX7_init_85 : decode cX7_init 85 = .ok (.aload_n 0, 1) := by decide +kernel
theorem dX7_init_86 : decode cX7_init 86 = .ok (.new 59, 3) := by decide +kernel
theorem dX7_init_89 : decode cX7_init 89 = .ok (.dup, 1) := by decide +kernel
theorem dX7_init_90 : decode cX7_init 90 = .ok (.invokespecial 61, 3) := by decide +kernel
theorem dX7_init_93 : decode cX7_init 93 = .ok (.putfield 62, 3) := by decide +kernel
theorem dX7_init_96 : decode cX7_init 96 = .ok (.aload_n 0, 1) := by decide +kernel
theorem dX7_init_97 : decode cX7_init 97 = .ok (.iconst 0, 1) := by decide +kernel
theorem dX7_init_98 : decode cX7_init 98 = .ok (.putfield 66, 3) := by decide +kernel
theorem dX7_init_101 : decode cX7_init 101 = .ok (.iconst 0, 1) := by decide +kernel
theorem dX7_init_102 : decode cX7_init 102 = .ok (.istore_n 1, 1) := by decide +kernel
theorem dX7_init_103 : decode cX7_init 103 = .ok (.iload_n 1, 1) := by decide +kernel
theorem dX7_init_104 : decode cX7_init 104 = .ok (.iconst 2, 1) := by decide +kernel
theorem dX7_init_105 : decode cX7_init 105 = .ok (.if_icmp .ge 22, 3) := by decide +kernel
theorem dX7_init_108 : decode cX7_init 108 = .ok (.aload_n 0, 1) := by decide +kernel
theorem dX7_init_109 : decode cX7_init 109 = .ok (.getfield 16, 3) := by decide +kernel
theorem dX7_init_112 : decode cX7_init 112 = .ok (.iload_n 1, 1) := by decide +kernel
theorem dX7_init_113 : decode cX7_init 113 = .ok (.new 9, 3) := by decide +kernel
theorem dX7_init_116 : decode cX7_init 116 = .ok (.dup, 1) := by decide +kernel
theorem dX7_init_117 : decode cX7_init 117 = .ok (.invokespecial 11, 3) := by decide +kernel
theorem dX7_init_120 : decode cX7_init 120 = .ok (.aastore, 1) := by decide +kernel
theorem dX7_init_121 : decode cX7_init 121 = .ok (.iinc 1 1, 3) := by decide +kernel
theorem dX7_init_124 : decode cX7_init 124 = .ok (.goto (-21), 3) := by decide +kernel
theorem dX7_init_127 : decode cX7_init 127 = .ok (.return_, 1) := by decide +kernel
theorem dX7_begin_0 : decode cX7_begin 0 = .ok (.iload_n 1, 1) := by decide +kernel
theorem dX7_begin_1 : decode cX7_begin 1 = .ok (.iconst 1, 1) := by decide +kernel
theorem dX7_begin_2 : decode cX7_begin 2 = .ok (.if_icmp .lt 19, 3) := by decide +kernel
theorem dX7_begin_5 : decode cX7_begin 5 = .ok (.iload_n 1, 1) := by decide +kernel
theorem dX7_begin_6 : decode cX7_begin 6 = .ok (.bipush 8, 2) := by decide +kernel
theorem dX7_begin_8 : decode cX7_begin 8 = .ok (.if_icmp .gt 13, 3) := by decide +kernel
theorem dX7_begin_11 : decode cX7_begin 11 = .ok (.iload_n 2, 1) := by decide +kernel
theorem dX7_begin_12 : decode cX7_begin 12 = .ok (.iconst 1, 1) := by decide +kernel
theorem dX7_begin_13 : decode cX7_begin 13 = .ok (.if_icmp .lt 8, 3) := by decide +kernel
theorem dX7_begin_16 : decode cX7_begin 16 = .ok (.iload_n 2, 1) := by decide +kernel
theorem dX7_begin_17 : decode cX7_begin 17 = .ok (.iconst 4, 1) := by decide +kernel
theorem dX7_begin_18 : decode cX7_begin 18 = .ok (.if_icmp .le 13, 3) := by decide +kernel
theorem dX7_begin_21 : decode cX7_begin 21 = .ok (.new 70, 3) := by decide +kernel
theorem dX7_begin_24 : decode cX7_begin 24 = .ok (.dup, 1) := by decide +kernel
theorem dX7_begin_25 : decode cX7_begin 25 = .ok (.ldc 72, 2) := by decide +kernel
theorem dX7_begin_27 : decode cX7_begin 27 = .ok (.invokespecial 74, 3) := by decide +kernel
theorem dX7_begin_30 : decode cX7_begin 30 = .ok (.athrow, 1) := by decide +kernel
theorem dX7_begin_31 : decode cX7_begin 31 = .ok (.aload_n 0, 1) := by decide +kernel
theorem dX7_begin_32 : decode cX7_begin 32 = .ok (.getfield 12, 3) := by decide +kernel
theorem dX7_begin_35 : decode cX7_begin 35 = .ok (.getfield 77, 3) := by decide +kernel
theorem dX7_begin_38 : decode cX7_begin 38 = .ok (.istore_n 3, 1) := by decide +kernel
theorem dX7_begin_39 : decode cX7_begin 39 = .ok (.aload_n 0, 1) := by decide +kernel
theorem dX7_begin_40 : decode cX7_begin 40 = .ok (.invokevirtual 80, 3) := by decide +kernel
theorem dX7_begin_43 : decode cX7_begin 43 = .ok (.aload_n 0, 1) := by decide +kernel
theorem dX7_begin_44 : decode cX7_begin 44 = .ok (.getfield 12, 3) := by decide +kernel
theorem dX7_begin_47 : decode cX7_begin 47 = .ok (.iload_n 1, 1) := by decide +kernel
theorem dX7_begin_48 : decode cX7_begin 48 = .ok (.iload_n 2, 1) := by decide +kernel
theorem dX7_begin_49 : decode cX7_begin 49 = .ok (.invokevirtual 83, 3) := by decide +kernel
theorem dX7_begin_52 : decode cX7_begin 52 = .ok (.iload_n 3, 1) := by decide +kernel
theorem dX7_begin_53 : decode cX7_begin 53 = .ok (.ireturn, 1) := by decide +kernel
theorem dX7_join_0 : decode cX7_join 0 = .ok (.aload_n 0, 1) := by decide +kernel
theorem dX7_join_1 : decode cX7_join 1 = .ok (.iload_n 1, 1) := by decide +kernel
theorem dX7_join_2 : decode cX7_join 2 = .ok (.invokevirtual 87, 3) := by decide +kernel
theorem dX7_join_5 : decode cX7_join 5 = .ok (.aload_n 0, 1) := by decide +kernel
theorem dX7_join_6 : decode cX7_join 6 = .ok (.iload_n 2, 1) := by decide +kernel
theorem dX7_join_7 : decode cX7_join 7 = .ok (.invokevirtual 87, 3) := by decide +kernel
theorem dX7_join_10 : decode cX7_join 10 = .ok (.iload_n 1, 1) := by decide +kernel
theorem dX7_join_11 : decode cX7_join 11 = .ok (.iload_n 2, 1) := by decide +kernel
theorem dX7_join_12 : decode cX7_join 12 = .ok (.if_icmp .ne 13, 3) := by decide +kernel
theorem dX7_join_15 : decode cX7_join 15 = .ok (.new 70, 3) := by decide +kernel
theorem dX7_join_18 : decode cX7_join 18 = .ok (.dup, 1) := by decide +kernel
theorem dX7_join_19 : decode cX7_join 19 = .ok (.ldc 91, 2) := by decide +kernel
theorem dX7_join_21 : decode cX7_join 21 = .ok (.invokespecial 74, 3) := by decide +kernel
theorem dX7_join_24 : decode cX7_join 24 = .ok (.athrow, 1) := by decide +kernel
theorem dX7_join_25 : decode cX7_join 25 = .ok (.aload_n 0, 1) := by decide +kernel
theorem dX7_join_26 : decode cX7_join 26 = .ok (.invokevirtual 80, 3) := by decide +kernel
theorem dX7_join_29 : decode cX7_join 29 = .ok (.aload_n 0, 1) := by decide +kernel
theorem dX7_join_30 : decode cX7_join 30 = .ok (.getfield 12, 3) := by decide +kernel
theorem dX7_join_33 : decode cX7_join 33 = .ok (.iload_n 1, 1) := by decide +kernel
theorem dX7_join_34 : decode cX7_join 34 = .ok (.iload_n 2, 1) := by decide +kernel
theorem dX7_join_35 : decode cX7_join 35 = .ok (.iload_n 3, 1) := by decide +kernel
theorem dX7_join_36 : decode cX7_join 36 = .ok (.invokevirtual 93, 3) := by decide +kernel
theorem dX7_join_39 : decode cX7_join 39 = .ok (.aload_n 0, 1) := by decide +kernel
theorem dX7_join_40 : decode cX7_join 40 = .ok (.getfield 12, 3) := by decide +kernel
theorem dX7_join_43 : decode cX7_join 43 = .ok (.invokevirtual 97, 3) := by decide +kernel
theorem dX7_join_46 : decode cX7_join 46 = .ok (.ireturn, 1) := by decide +kernel
theorem dX7_weigh_0 : decode cX7_weigh 0 = .ok (.aload_n 0, 1) := by decide +kernel
theorem dX7_weigh_1 : decode cX7_weigh 1 = .ok (.iload_n 1, 1) := by decide +kernel
theorem dX7_weigh_2 : decode cX7_weigh 2 = .ok (.invokevirtual 87, 3) := by decide +kernel
theorem dX7_weigh_5 : decode cX7_weigh 5 = .ok (.iload_n 2, 1) := by decide +kernel
theorem dX7_weigh_6 : decode cX7_weigh 6 = .ok (.ifCond .lt 9, 3) := by decide +kernel
theorem dX7_weigh_9 : decode cX7_weigh 9 = .ok (.iload_n 2, 1) := by decide +kernel
theorem dX7_weigh_10 : decode cX7_weigh 10 = .ok (.bipush 9, 2) := by decide +kernel
theorem dX7_weigh_12 : decode cX7_weigh 12 = .ok (.if_icmp .le 13, 3) := by decide +kernel
theorem dX7_weigh_15 : decode cX7_weigh 15 = .ok (.new 70, 3) := by decide +kernel
theorem dX7_weigh_18 : decode cX7_weigh 18 = .ok (.dup, 1) := by decide +kernel
theorem dX7_weigh_19 : decode cX7_weigh 19 = .ok (.ldc 101, 2) := by decide +kernel
theorem dX7_weigh_21 : decode cX7_weigh 21 = .ok (.invokespecial 74, 3) := by decide +kernel
theorem dX7_weigh_24 : decode cX7_weigh 24 = .ok (.athrow, 1) := by decide +kernel
theorem dX7_weigh_25 : decode cX7_weigh 25 = .ok (.aload_n 0, 1) := by decide +kernel
theorem dX7_weigh_26 : decode cX7_weigh 26 = .ok (.getfield 12, 3) := by decide +kernel
theorem dX7_weigh_29 : decode cX7_weigh 29 = .ok (.getfield 103, 3) := by decide +kernel
theorem dX7_weigh_32 : decode cX7_weigh 32 = .ok (.iload_n 1, 1) := by decide +kernel
theorem dX7_weigh_33 : decode cX7_weigh 33 = .ok (.iaload, 1) := by decide +kernel
theorem dX7_weigh_34 : decode cX7_weigh 34 = .ok (.istore_n 3, 1) := by decide +kernel
theorem dX7_weigh_35 : decode cX7_weigh 35 = .ok (.aload_n 0, 1) := by decide +kernel
theorem dX7_weigh_36 : decode cX7_weigh 36 = .ok (.invokevirtual 80, 3) := by decide +kernel
theorem dX7_weigh_39 : decode cX7_weigh 39 = .ok (.aload_n 0, 1) := by decide +kernel
theorem dX7_weigh_40 : decode cX7_weigh 40 = .ok (.getfield 12, 3) := by decide +kernel
theorem dX7_weigh_43 : decode cX7_weigh 43 = .ok (.getfield 103, 3) := by decide +kernel
theorem dX7_weigh_46 : decode cX7_weigh 46 = .ok (.iload_n 1, 1) := by decide +kernel
theorem dX7_weigh_47 : decode cX7_weigh 47 = .ok (.iload_n 2, 1) := by decide +kernel
theorem dX7_weigh_48 : decode cX7_weigh 48 = .ok (.iastore, 1) := by decide +kernel
theorem dX7_weigh_49 : decode cX7_weigh 49 = .ok (.iload_n 3, 1) := by decide +kernel
theorem dX7_weigh_50 : decode cX7_weigh 50 = .ok (.ireturn, 1) := by decide +kernel
theorem dX7_complement_0 : decode cX7_complement 0 = .ok (.aload_n 0, 1) := by decide +kernel
theorem dX7_complement_1 : decode cX7_complement 1 = .ok (.invokevirtual 80, 3) := by decide +kernel
theorem dX7_complement_4 : decode cX7_complement 4 = .ok (.aload_n 0, 1) := by decide +kernel
theorem dX7_complement_5 : decode cX7_complement 5 = .ok (.getfield 12, 3) := by decide +kernel
theorem dX7_complement_8 : decode cX7_complement 8 = .ok (.invokevirtual 107, 3) := by decide +kernel
theorem dX7_complement_11 : decode cX7_complement 11 = .ok (.aload_n 0, 1) := by decide +kernel
theorem dX7_complement_12 : decode cX7_complement 12 = .ok (.getfield 12, 3) := by decide +kernel
theorem dX7_complement_15 : decode cX7_complement 15 = .ok (.invokevirtual 97, 3) := by decide +kernel
theorem dX7_complement_18 : decode cX7_complement 18 = .ok (.ireturn, 1) := by decide +kernel
theorem dX7_remove_0 : decode cX7_remove 0 = .ok (.aload_n 0, 1) := by decide +kernel
theorem dX7_remove_1 : decode cX7_remove 1 = .ok (.iload_n 1, 1) := by decide +kernel
theorem dX7_remove_2 : decode cX7_remove 2 = .ok (.invokevirtual 87, 3) := by decide +kernel
theorem dX7_remove_5 : decode cX7_remove 5 = .ok (.aload_n 0, 1) := by decide +kernel
theorem dX7_remove_6 : decode cX7_remove 6 = .ok (.getfield 12, 3) := by decide +kernel
theorem dX7_remove_9 : decode cX7_remove 9 = .ok (.getfield 77, 3) := by decide +kernel
theorem dX7_remove_12 : decode cX7_remove 12 = .ok (.iconst 1, 1) := by decide +kernel
theorem dX7_remove_13 : decode cX7_remove 13 = .ok (.if_icmp .ne 13, 3) := by decide +kernel
theorem dX7_remove_16 : decode cX7_remove 16 = .ok (.new 110, 3) := by decide +kernel
theorem dX7_remove_19 : decode cX7_remove 19 = .ok (.dup, 1) := by decide +kernel
theorem dX7_remove_20 : decode cX7_remove 20 = .ok (.ldc 112, 2) := by decide +kernel
theorem dX7_remove_22 : decode cX7_remove 22 = .ok (.invokespecial 114, 3) := by decide +kernel
theorem dX7_remove_25 : decode cX7_remove 25 = .ok (.athrow, 1) := by decide +kernel
theorem dX7_remove_26 : decode cX7_remove 26 = .ok (.aload_n 0, 1) := by decide +kernel
theorem dX7_remove_27 : decode cX7_remove 27 = .ok (.invokevirtual 80, 3) := by decide +kernel
theorem dX7_remove_30 : decode cX7_remove 30 = .ok (.aload_n 0, 1) := by decide +kernel
theorem dX7_remove_31 : decode cX7_remove 31 = .ok (.getfield 12, 3) := by decide +kernel
theorem dX7_remove_34 : decode cX7_remove 34 = .ok (.iload_n 1, 1) := by decide +kernel
theorem dX7_remove_35 : decode cX7_remove 35 = .ok (.invokevirtual 115, 3) := by decide +kernel
theorem dX7_remove_38 : decode cX7_remove 38 = .ok (.aload_n 0, 1) := by decide +kernel
theorem dX7_remove_39 : decode cX7_remove 39 = .ok (.getfield 12, 3) := by decide +kernel
theorem dX7_remove_42 : decode cX7_remove 42 = .ok (.getfield 77, 3) := by decide +kernel
theorem dX7_remove_45 : decode cX7_remove 45 = .ok (.ireturn, 1) := by decide +kernel
theorem dX7_label_0 : decode cX7_label 0 = .ok (.aload_n 0, 1) := by decide +kernel
theorem dX7_label_1 : decode cX7_label 1 = .ok (.iload_n 1, 1) := by decide +kernel
theorem dX7_label_2 : decode cX7_label 2 = .ok (.invokevirtual 87, 3) := by decide +kernel
theorem dX7_label_5 : decode cX7_label 5 = .ok (.aload_n 0, 1) := by decide +kernel
theorem dX7_label_6 : decode cX7_label 6 = .ok (.iload_n 2, 1) := by decide +kernel
theorem dX7_label_7 : decode cX7_label 7 = .ok (.invokevirtual 135, 3) := by decide +kernel
theorem dX7_label_10 : decode cX7_label 10 = .ok (.iload_n 3, 1) := by decide +kernel
theorem dX7_label_11 : decode cX7_label 11 = .ok (.invokestatic 138, 3) := by decide +kernel
theorem dX7_label_14 : decode cX7_label 14 = .ok (.aload_n 0, 1) := by decide +kernel
theorem dX7_label_15 : decode cX7_label 15 = .ok (.getfield 12, 3) := by decide +kernel
theorem dX7_label_18 : decode cX7_label 18 = .ok (.getfield 141, 3) := by decide +kernel
theorem dX7_label_21 : decode cX7_label 21 = .ok (.iload_n 1, 1) := by decide +kernel
theorem dX7_label_22 : decode cX7_label 22 = .ok (.aaload, 1) := by decide +kernel
theorem dX7_label_23 : decode cX7_label 23 = .ok (.iload_n 2, 1) := by decide +kernel
theorem dX7_label_24 : decode cX7_label 24 = .ok (.iaload, 1) := by decide +kernel
theorem dX7_label_25 : decode cX7_label 25 = .ok (.istore 4, 2) := by decide +kernel
theorem dX7_label_27 : decode cX7_label 27 = .ok (.aload_n 0, 1) := by decide +kernel
theorem dX7_label_28 : decode cX7_label 28 = .ok (.invokevirtual 80, 3) := by decide +kernel
theorem dX7_label_31 : decode cX7_label 31 = .ok (.aload_n 0, 1) := by decide +kernel
theorem dX7_label_32 : decode cX7_label 32 = .ok (.getfield 12, 3) := by decide +kernel
theorem dX7_label_35 : decode cX7_label 35 = .ok (.getfield 141, 3) := by decide +kernel
theorem dX7_label_38 : decode cX7_label 38 = .ok (.iload_n 1, 1) := by decide +kernel
theorem dX7_label_39 : decode cX7_label 39 = .ok (.aaload, 1) := by decide +kernel
theorem dX7_label_40 : decode cX7_label 40 = .ok (.iload_n 2, 1) := by decide +kernel
theorem dX7_label_41 : decode cX7_label 41 = .ok (.iload_n 3, 1) := by decide +kernel
theorem dX7_label_42 : decode cX7_label 42 = .ok (.iastore, 1) := by decide +kernel
theorem dX7_label_43 : decode cX7_label 43 = .ok (.iload 4, 2) := by decide +kernel
theorem dX7_label_45 : decode cX7_label 45 = .ok (.ireturn, 1) := by decide +kernel
theorem dX7_hold_0 : decode cX7_hold 0 = .ok (.aload_n 0, 1) := by decide +kernel
theorem dX7_hold_1 : decode cX7_hold 1 = .ok (.iload_n 1, 1) := by decide +kernel
theorem dX7_hold_2 : decode cX7_hold 2 = .ok (.invokevirtual 135, 3) := by decide +kernel
theorem dX7_hold_5 : decode cX7_hold 5 = .ok (.iload_n 2, 1) := by decide +kernel
theorem dX7_hold_6 : decode cX7_hold 6 = .ok (.invokestatic 138, 3) := by decide +kernel
theorem dX7_hold_9 : decode cX7_hold 9 = .ok (.aload_n 0, 1) := by decide +kernel
theorem dX7_hold_10 : decode cX7_hold 10 = .ok (.getfield 12, 3) := by decide +kernel
theorem dX7_hold_13 : decode cX7_hold 13 = .ok (.getfield 145, 3) := by decide +kernel
theorem dX7_hold_16 : decode cX7_hold 16 = .ok (.iload_n 1, 1) := by decide +kernel
theorem dX7_hold_17 : decode cX7_hold 17 = .ok (.iaload, 1) := by decide +kernel
theorem dX7_hold_18 : decode cX7_hold 18 = .ok (.istore_n 3, 1) := by decide +kernel
theorem dX7_hold_19 : decode cX7_hold 19 = .ok (.aload_n 0, 1) := by decide +kernel
theorem dX7_hold_20 : decode cX7_hold 20 = .ok (.invokevirtual 80, 3) := by decide +kernel
theorem dX7_hold_23 : decode cX7_hold 23 = .ok (.aload_n 0, 1) := by decide +kernel
theorem dX7_hold_24 : decode cX7_hold 24 = .ok (.getfield 12, 3) := by decide +kernel
theorem dX7_hold_27 : decode cX7_hold 27 = .ok (.getfield 145, 3) := by decide +kernel
theorem dX7_hold_30 : decode cX7_hold 30 = .ok (.iload_n 1, 1) := by decide +kernel
theorem dX7_hold_31 : decode cX7_hold 31 = .ok (.iload_n 2, 1) := by decide +kernel
theorem dX7_hold_32 : decode cX7_hold 32 = .ok (.iastore, 1) := by decide +kernel
theorem dX7_hold_33 : decode cX7_hold 33 = .ok (.iload_n 3, 1) := by decide +kernel
theorem dX7_hold_34 : decode cX7_hold 34 = .ok (.ireturn, 1) := by decide +kernel
theorem dX7_joined_0 : decode cX7_joined 0 = .ok (.aload_n 0, 1) := by decide +kernel
theorem dX7_joined_1 : decode cX7_joined 1 = .ok (.iload_n 1, 1) := by decide +kernel
theorem dX7_joined_2 : decode cX7_joined 2 = .ok (.invokevirtual 87, 3) := by decide +kernel
theorem dX7_joined_5 : decode cX7_joined 5 = .ok (.aload_n 0, 1) := by decide +kernel
theorem dX7_joined_6 : decode cX7_joined 6 = .ok (.iload_n 2, 1) := by decide +kernel
theorem dX7_joined_7 : decode cX7_joined 7 = .ok (.invokevirtual 87, 3) := by decide +kernel
theorem dX7_joined_10 : decode cX7_joined 10 = .ok (.aload_n 0, 1) := by decide +kernel
theorem dX7_joined_11 : decode cX7_joined 11 = .ok (.getfield 12, 3) := by decide +kernel
theorem dX7_joined_14 : decode cX7_joined 14 = .ok (.iload_n 1, 1) := by decide +kernel
theorem dX7_joined_15 : decode cX7_joined 15 = .ok (.iload_n 2, 1) := by decide +kernel
theorem dX7_joined_16 : decode cX7_joined 16 = .ok (.invokevirtual 228, 3) := by decide +kernel
theorem dX7_joined_19 : decode cX7_joined 19 = .ok (.ifCond .eq 7, 3) := by decide +kernel
theorem dX7_joined_22 : decode cX7_joined 22 = .ok (.iconst 1, 1) := by decide +kernel
theorem dX7_joined_23 : decode cX7_joined 23 = .ok (.goto 4, 3) := by decide +kernel
theorem dX7_joined_26 : decode cX7_joined 26 = .ok (.iconst 0, 1) := by decide +kernel
theorem dX7_joined_27 : decode cX7_joined 27 = .ok (.ireturn, 1) := by decide +kernel
theorem dX7_vertex_0 : decode cX7_vertex 0 = .ok (.aload_n 0, 1) := by decide +kernel
theorem dX7_vertex_1 : decode cX7_vertex 1 = .ok (.iload_n 1, 1) := by decide +kernel
theorem dX7_vertex_2 : decode cX7_vertex 2 = .ok (.invokevirtual 87, 3) := by decide +kernel
theorem dX7_vertex_5 : decode cX7_vertex 5 = .ok (.iload_n 2, 1) := by decide +kernel
theorem dX7_vertex_6 : decode cX7_vertex 6 = .ok (.ifCond .lt 20, 3) := by decide +kernel
theorem dX7_vertex_9 : decode cX7_vertex 9 = .ok (.iload_n 2, 1) := by decide +kernel
theorem dX7_vertex_10 : decode cX7_vertex 10 = .ok (.bipush 13, 2) := by decide +kernel
theorem dX7_vertex_12 : decode cX7_vertex 12 = .ok (.if_icmp .gt 14, 3) := by decide +kernel
theorem dX7_vertex_15 : decode cX7_vertex 15 = .ok (.iload_n 2, 1) := by decide +kernel
theorem dX7_vertex_16 : decode cX7_vertex 16 = .ok (.iconst 5, 1) := by decide +kernel
theorem dX7_vertex_17 : decode cX7_vertex 17 = .ok (.if_icmp .le 19, 3) := by decide +kernel
theorem dX7_vertex_20 : decode cX7_vertex 20 = .ok (.iload_n 2, 1) := by decide +kernel
theorem dX7_vertex_21 : decode cX7_vertex 21 = .ok (.bipush 10, 2) := by decide +kernel
theorem dX7_vertex_23 : decode cX7_vertex 23 = .ok (.if_icmp .ge 13, 3) := by decide +kernel
theorem dX7_vertex_26 : decode cX7_vertex 26 = .ok (.new 70, 3) := by decide +kernel
theorem dX7_vertex_29 : decode cX7_vertex 29 = .ok (.dup, 1) := by decide +kernel
theorem dX7_vertex_30 : decode cX7_vertex 30 = .ok (.ldc 232, 2) := by decide +kernel
theorem dX7_vertex_32 : decode cX7_vertex 32 = .ok (.invokespecial 74, 3) := by decide +kernel
theorem dX7_vertex_35 : decode cX7_vertex 35 = .ok (.athrow, 1) := by decide +kernel
theorem dX7_vertex_36 : decode cX7_vertex 36 = .ok (.aload_n 0, 1) := by decide +kernel
theorem dX7_vertex_37 : decode cX7_vertex 37 = .ok (.invokevirtual 234, 3) := by decide +kernel
theorem dX7_vertex_40 : decode cX7_vertex 40 = .ok (.aload_n 0, 1) := by decide +kernel
theorem dX7_vertex_41 : decode cX7_vertex 41 = .ok (.iload_n 1, 1) := by decide +kernel
theorem dX7_vertex_42 : decode cX7_vertex 42 = .ok (.iload_n 2, 1) := by decide +kernel
theorem dX7_vertex_43 : decode cX7_vertex 43 = .ok (.invokevirtual 237, 3) := by decide +kernel
theorem dX7_vertex_46 : decode cX7_vertex 46 = .ok (.ireturn, 1) := by decide +kernel
theorem dX7_handle_0 : decode cX7_handle 0 = .ok (.aload_n 0, 1) := by decide +kernel
theorem dX7_handle_1 : decode cX7_handle 1 = .ok (.iload_n 1, 1) := by decide +kernel
theorem dX7_handle_2 : decode cX7_handle 2 = .ok (.invokevirtual 135, 3) := by decide +kernel
theorem dX7_handle_5 : decode cX7_handle 5 = .ok (.aload_n 0, 1) := by decide +kernel
theorem dX7_handle_6 : decode cX7_handle 6 = .ok (.getfield 12, 3) := by decide +kernel
theorem dX7_handle_9 : decode cX7_handle 9 = .ok (.getfield 145, 3) := by decide +kernel
theorem dX7_handle_12 : decode cX7_handle 12 = .ok (.iload_n 1, 1) := by decide +kernel
theorem dX7_handle_13 : decode cX7_handle 13 = .ok (.iaload, 1) := by decide +kernel
theorem dX7_handle_14 : decode cX7_handle 14 = .ok (.ireturn, 1) := by decide +kernel
theorem dX7_bound_0 : decode cX7_bound 0 = .ok (.iload_n 1, 1) := by decide +kernel
theorem dX7_bound_1 : decode cX7_bound 1 = .ok (.invokestatic 241, 3) := by decide +kernel
theorem dX7_bound_4 : decode cX7_bound 4 = .ok (.aload_n 0, 1) := by decide +kernel
theorem dX7_bound_5 : decode cX7_bound 5 = .ok (.getfield 55, 3) := by decide +kernel
theorem dX7_bound_8 : decode cX7_bound 8 = .ok (.aload_n 0, 1) := by decide +kernel
theorem dX7_bound_9 : decode cX7_bound 9 = .ok (.getfield 12, 3) := by decide +kernel
theorem dX7_bound_12 : decode cX7_bound 12 = .ok (.invokevirtual 244, 3) := by decide +kernel
theorem dX7_bound_15 : decode cX7_bound 15 = .ok (.aload_n 0, 1) := by decide +kernel
theorem dX7_bound_16 : decode cX7_bound 16 = .ok (.getfield 55, 3) := by decide +kernel
theorem dX7_bound_19 : decode cX7_bound 19 = .ok (.iload_n 1, 1) := by decide +kernel
theorem dX7_bound_20 : decode cX7_bound 20 = .ok (.invokevirtual 247, 3) := by decide +kernel
theorem dX7_bound_23 : decode cX7_bound 23 = .ok (.lreturn, 1) := by decide +kernel
theorem dX7_whyNot_0 : decode cX7_whyNot 0 = .ok (.iload_n 1, 1) := by decide +kernel
theorem dX7_whyNot_1 : decode cX7_whyNot 1 = .ok (.invokestatic 241, 3) := by decide +kernel
theorem dX7_whyNot_4 : decode cX7_whyNot 4 = .ok (.aload_n 0, 1) := by decide +kernel
theorem dX7_whyNot_5 : decode cX7_whyNot 5 = .ok (.iload_n 1, 1) := by decide +kernel
theorem dX7_whyNot_6 : decode cX7_whyNot 6 = .ok (.invokevirtual 251, 3) := by decide +kernel
theorem dX7_whyNot_9 : decode cX7_whyNot 9 = .ok (.ireturn, 1) := by decide +kernel
theorem dX7_count_0 : decode cX7_count 0 = .ok (.iload_n 1, 1) := by decide +kernel
theorem dX7_count_1 : decode cX7_count 1 = .ok (.ifCond .lt 9, 3) := by decide +kernel
theorem dX7_count_4 : decode cX7_count 4 = .ok (.iload_n 1, 1) := by decide +kernel
theorem dX7_count_5 : decode cX7_count 5 = .ok (.bipush 11, 2) := by decide +kernel
theorem dX7_count_7 : decode cX7_count 7 = .ok (.if_icmp .le 14, 3) := by decide +kernel
theorem dX7_count_10 : decode cX7_count 10 = .ok (.new 70, 3) := by decide +kernel
theorem dX7_count_13 : decode cX7_count 13 = .ok (.dup, 1) := by decide +kernel
theorem dX7_count_14 : decode cX7_count 14 = .ok (.ldc_w 259, 3) := by decide +kernel
theorem dX7_count_17 : decode cX7_count 17 = .ok (.invokespecial 74, 3) := by decide +kernel
theorem dX7_count_20 : decode cX7_count 20 = .ok (.athrow, 1) := by decide +kernel
theorem dX7_count_21 : decode cX7_count 21 = .ok (.aload_n 0, 1) := by decide +kernel
theorem dX7_count_22 : decode cX7_count 22 = .ok (.invokevirtual 234, 3) := by decide +kernel
theorem dX7_count_25 : decode cX7_count 25 = .ok (.aload_n 0, 1) := by decide +kernel
theorem dX7_count_26 : decode cX7_count 26 = .ok (.iload_n 1, 1) := by decide +kernel
theorem dX7_count_27 : decode cX7_count 27 = .ok (.invokevirtual 261, 3) := by decide +kernel
theorem dX7_count_30 : decode cX7_count 30 = .ok (.ireturn, 1) := by decide +kernel
theorem dX7_nearness_0 : decode cX7_nearness 0 = .ok (.aload_n 0, 1) := by decide +kernel
theorem dX7_nearness_1 : decode cX7_nearness 1 = .ok (.invokevirtual 234, 3) := by decide +kernel
theorem dX7_nearness_4 : decode cX7_nearness 4 = .ok (.aload_n 0, 1) := by decide +kernel
theorem dX7_nearness_5 : decode cX7_nearness 5 = .ok (.invokevirtual 264, 3) := by decide +kernel
theorem dX7_nearness_8 : decode cX7_nearness 8 = .ok (.dreturn, 1) := by decide +kernel
theorem dX7_checkVertex_0 : decode cX7_checkVertex 0 = .ok (.iload_n 1, 1) := by decide +kernel
theorem dX7_checkVertex_1 : decode cX7_checkVertex 1 = .ok (.ifCond .lt 14, 3) := by decide +kernel
theorem dX7_checkVertex_4 : decode cX7_checkVertex 4 = .ok (.iload_n 1, 1) := by decide +kernel
theorem dX7_checkVertex_5 : decode cX7_checkVertex 5 = .ok (.aload_n 0, 1) := by decide +kernel
theorem dX7_checkVertex_6 : decode cX7_checkVertex 6 = .ok (.getfield 12, 3) := by decide +kernel
theorem dX7_checkVertex_9 : decode cX7_checkVertex 9 = .ok (.getfield 77, 3) := by decide +kernel
theorem dX7_checkVertex_12 : decode cX7_checkVertex 12 = .ok (.if_icmp .lt 14, 3) := by decide +kernel
theorem dX7_checkVertex_15 : decode cX7_checkVertex 15 = .ok (.new 285, 3) := by decide +kernel
theorem dX7_checkVertex_18 : decode cX7_checkVertex 18 = .ok (.dup, 1) := by decide +kernel
theorem dX7_checkVertex_19 : decode cX7_checkVertex 19 = .ok (.ldc_w 287, 3) := by decide +kernel
theorem dX7_checkVertex_22 : decode cX7_checkVertex 22 = .ok (.invokespecial 289, 3) := by decide +kernel
theorem dX7_checkVertex_25 : decode cX7_checkVertex 25 = .ok (.athrow, 1) := by decide +kernel
theorem dX7_checkVertex_26 : decode cX7_checkVertex 26 = .ok (.return_, 1) := by decide +kernel
theorem dX7_checkPlace_0 : decode cX7_checkPlace 0 = .ok (.iload_n 1, 1) := by decide +kernel
theorem dX7_checkPlace_1 : decode cX7_checkPlace 1 = .ok (.ifCond .lt 14, 3) := by decide +kernel
theorem dX7_checkPlace_4 : decode cX7_checkPlace 4 = .ok (.iload_n 1, 1) := by decide +kernel
theorem dX7_checkPlace_5 : decode cX7_checkPlace 5 = .ok (.aload_n 0, 1) := by decide +kernel
theorem dX7_checkPlace_6 : decode cX7_checkPlace 6 = .ok (.getfield 12, 3) := by decide +kernel
theorem dX7_checkPlace_9 : decode cX7_checkPlace 9 = .ok (.getfield 155, 3) := by decide +kernel
theorem dX7_checkPlace_12 : decode cX7_checkPlace 12 = .ok (.if_icmp .lt 14, 3) := by decide +kernel
theorem dX7_checkPlace_15 : decode cX7_checkPlace 15 = .ok (.new 285, 3) := by decide +kernel
theorem dX7_checkPlace_18 : decode cX7_checkPlace 18 = .ok (.dup, 1) := by decide +kernel
theorem dX7_checkPlace_19 : decode cX7_checkPlace 19 = .ok (.ldc_w 290, 3) := by decide +kernel
theorem dX7_checkPlace_22 : decode cX7_checkPlace 22 = .ok (.invokespecial 289, 3) := by decide +kernel
theorem dX7_checkPlace_25 : decode cX7_checkPlace 25 = .ok (.athrow, 1) := by decide +kernel
theorem dX7_checkPlace_26 : decode cX7_checkPlace 26 = .ok (.return_, 1) := by decide +kernel
theorem dX7_checkNumber_0 : decode cX7_checkNumber 0 = .ok (.iload_n 0, 1) := by decide +kernel
theorem dX7_checkNumber_1 : decode cX7_checkNumber 1 = .ok (.bipush (-9), 2) := by decide +kernel
theorem dX7_checkNumber_3 : decode cX7_checkNumber 3 = .ok (.if_icmp .lt 9, 3) := by decide +kernel
theorem dX7_checkNumber_6 : decode cX7_checkNumber 6 = .ok (.iload_n 0, 1) := by decide +kernel
theorem dX7_checkNumber_7 : decode cX7_checkNumber 7 = .ok (.bipush 9, 2) := by decide +kernel
theorem dX7_checkNumber_9 : decode cX7_checkNumber 9 = .ok (.if_icmp .le 14, 3) := by decide +kernel
theorem dX7_checkNumber_12 : decode cX7_checkNumber 12 = .ok (.new 70, 3) := by decide +kernel
theorem dX7_checkNumber_15 : decode cX7_checkNumber 15 = .ok (.dup, 1) := by decide +kernel
theorem dX7_checkNumber_16 : decode cX7_checkNumber 16 = .ok (.ldc_w 296, 3) := by decide +kernel
theorem dX7_checkNumber_19 : decode cX7_checkNumber 19 = .ok (.invokespecial 74, 3) := by decide +kernel
theorem dX7_checkNumber_22 : decode cX7_checkNumber 22 = .ok (.athrow, 1) := by decide +kernel
theorem dX7_checkNumber_23 : decode cX7_checkNumber 23 = .ok (.return_, 1) := by decide +kernel
theorem dX7_checkPart_0 : decode cX7_checkPart 0 = .ok (.iload_n 0, 1) := by decide +kernel
theorem dX7_checkPart_1 : decode cX7_checkPart 1 = .ok (.ifCond .lt 8, 3) := by decide +kernel
theorem dX7_checkPart_4 : decode cX7_checkPart 4 = .ok (.iload_n 0, 1) := by decide +kernel
theorem dX7_checkPart_5 : decode cX7_checkPart 5 = .ok (.iconst 2, 1) := by decide +kernel
theorem dX7_checkPart_6 : decode cX7_checkPart 6 = .ok (.if_icmp .le 14, 3) := by decide +kernel
theorem dX7_checkPart_9 : decode cX7_checkPart 9 = .ok (.new 70, 3) := by decide +kernel
theorem dX7_checkPart_12 : decode cX7_checkPart 12 = .ok (.dup, 1) := by decide +kernel
theorem dX7_checkPart_13 : decode cX7_checkPart 13 = .ok (.ldc_w 300, 3) := by decide +kernel
theorem dX7_checkPart_16 : decode cX7_checkPart 16 = .ok (.invokespecial 74, 3) := by decide +kernel
theorem dX7_checkPart_19 : decode cX7_checkPart 19 = .ok (.athrow, 1) := by decide +kernel
theorem dX7_checkPart_20 : decode cX7_checkPart 20 = .ok (.return_, 1) := by decide +kernel
theorem dX7_saveState_0 : decode cX7_saveState 0 = .ok (.aload_n 0, 1) := by decide +kernel
theorem dX7_saveState_1 : decode cX7_saveState 1 = .ok (.getfield 27, 3) := by decide +kernel
theorem dX7_saveState_4 : decode cX7_saveState 4 = .ok (.aload_n 0, 1) := by decide +kernel
theorem dX7_saveState_5 : decode cX7_saveState 5 = .ok (.getfield 12, 3) := by decide +kernel
theorem dX7_saveState_8 : decode cX7_saveState 8 = .ok (.aload_n 0, 1) := by decide +kernel
theorem dX7_saveState_9 : decode cX7_saveState 9 = .ok (.getfield 66, 3) := by decide +kernel
theorem dX7_saveState_12 : decode cX7_saveState 12 = .ok (.invokevirtual 302, 3) := by decide +kernel
theorem dX7_saveState_15 : decode cX7_saveState 15 = .ok (.return_, 1) := by decide +kernel
theorem dX7_searchGraph_0 : decode cX7_searchGraph 0 = .ok (.aload_n 0, 1) := by decide +kernel
theorem dX7_searchGraph_1 : decode cX7_searchGraph 1 = .ok (.getfield 41, 3) := by decide +kernel
theorem dX7_searchGraph_4 : decode cX7_searchGraph 4 = .ok (.aload_n 0, 1) := by decide +kernel
theorem dX7_searchGraph_5 : decode cX7_searchGraph 5 = .ok (.getfield 12, 3) := by decide +kernel
theorem dX7_searchGraph_8 : decode cX7_searchGraph 8 = .ok (.invokevirtual 148, 3) := by decide +kernel
theorem dX7_searchGraph_11 : decode cX7_searchGraph 11 = .ok (.aload_n 0, 1) := by decide +kernel
theorem dX7_searchGraph_12 : decode cX7_searchGraph 12 = .ok (.getfield 48, 3) := by decide +kernel
theorem dX7_searchGraph_15 : decode cX7_searchGraph 15 = .ok (.aload_n 0, 1) := by decide +kernel
theorem dX7_searchGraph_16 : decode cX7_searchGraph 16 = .ok (.getfield 12, 3) := by decide +kernel
theorem dX7_searchGraph_19 : decode cX7_searchGraph 19 = .ok (.invokevirtual 305, 3) := by decide +kernel
theorem dX7_searchGraph_22 : decode cX7_searchGraph 22 = .ok (.return_, 1) := by decide +kernel
theorem dX7_propertyOf_0 : decode cX7_propertyOf 0 = .ok (.iload_n 2, 1) := by decide +kernel
theorem dX7_propertyOf_1 : decode cX7_propertyOf 1 = .ok (.tableswitch 132 0 5 #[39, 49, 62, 84, 104, 114], 39) := by decide +kernel
theorem dX7_propertyOf_40 : decode cX7_propertyOf 40 = .ok (.aload_n 0, 1) := by decide +kernel
theorem dX7_propertyOf_41 : decode cX7_propertyOf 41 = .ok (.getfield 12, 3) := by decide +kernel
theorem dX7_propertyOf_44 : decode cX7_propertyOf 44 = .ok (.getfield 103, 3) := by decide +kernel
theorem dX7_propertyOf_47 : decode cX7_propertyOf 47 = .ok (.iload_n 1, 1) := by decide +kernel
theorem dX7_propertyOf_48 : decode cX7_propertyOf 48 = .ok (.iaload, 1) := by decide +kernel
theorem dX7_propertyOf_49 : decode cX7_propertyOf 49 = .ok (.ireturn, 1) := by decide +kernel
theorem dX7_propertyOf_50 : decode cX7_propertyOf 50 = .ok (.aload_n 0, 1) := by decide +kernel
theorem dX7_propertyOf_51 : decode cX7_propertyOf 51 = .ok (.getfield 12, 3) := by decide +kernel
theorem dX7_propertyOf_54 : decode cX7_propertyOf 54 = .ok (.getfield 306, 3) := by decide +kernel
theorem dX7_propertyOf_57 : decode cX7_propertyOf 57 = .ok (.iload_n 1, 1) := by decide +kernel
theorem dX7_propertyOf_58 : decode cX7_propertyOf 58 = .ok (.iaload, 1) := by decide +kernel
theorem dX7_propertyOf_59 : decode cX7_propertyOf 59 = .ok (.invokestatic 309, 3) := by decide +kernel
theorem dX7_propertyOf_62 : decode cX7_propertyOf 62 = .ok (.ireturn, 1) := by decide +kernel
theorem dX7_propertyOf_63 : decode cX7_propertyOf 63 = .ok (.aload_n 0, 1) := by decide +kernel
theorem dX7_propertyOf_64 : decode cX7_propertyOf 64 = .ok (.getfield 12, 3) := by decide +kernel
theorem dX7_propertyOf_67 : decode cX7_propertyOf 67 = .ok (.getfield 141, 3) := by decide +kernel
theorem dX7_propertyOf_70 : decode cX7_propertyOf 70 = .ok (.iload_n 1, 1) := by decide +kernel
theorem dX7_propertyOf_71 : decode cX7_propertyOf 71 = .ok (.aaload, 1) := by decide +kernel
theorem dX7_propertyOf_72 : decode cX7_propertyOf 72 = .ok (.aload_n 0, 1) := by decide +kernel
theorem dX7_propertyOf_73 : decode cX7_propertyOf 73 = .ok (.getfield 12, 3) := by decide +kernel
theorem dX7_propertyOf_76 : decode cX7_propertyOf 76 = .ok (.getfield 141, 3) := by decide +kernel
theorem dX7_propertyOf_79 : decode cX7_propertyOf 79 = .ok (.iload_n 1, 1) := by decide +kernel
theorem dX7_propertyOf_80 : decode cX7_propertyOf 80 = .ok (.aaload, 1) := by decide +kernel
theorem dX7_propertyOf_81 : decode cX7_propertyOf 81 = .ok (.invokestatic 314, 3) := by decide +kernel
theorem dX7_propertyOf_84 : decode cX7_propertyOf 84 = .ok (.ireturn, 1) := by decide +kernel
theorem dX7_propertyOf_85 : decode cX7_propertyOf 85 = .ok (.aload_n 0, 1) := by decide +kernel
theorem dX7_propertyOf_86 : decode cX7_propertyOf 86 = .ok (.getfield 12, 3) := by decide +kernel
theorem dX7_propertyOf_89 : decode cX7_propertyOf 89 = .ok (.getfield 141, 3) := by decide +kernel
theorem dX7_propertyOf_92 : decode cX7_propertyOf 92 = .ok (.iload_n 1, 1) := by decide +kernel
theorem dX7_propertyOf_93 : decode cX7_propertyOf 93 = .ok (.aaload, 1) := by decide +kernel
theorem dX7_propertyOf_94 : decode cX7_propertyOf 94 = .ok (.aload_n 0, 1) := by decide +kernel
theorem dX7_propertyOf_95 : decode cX7_propertyOf 95 = .ok (.getfield 12, 3) := by decide +kernel
theorem dX7_propertyOf_98 : decode cX7_propertyOf 98 = .ok (.getfield 145, 3) := by decide +kernel
theorem dX7_propertyOf_101 : decode cX7_propertyOf 101 = .ok (.invokestatic 314, 3) := by decide +kernel
theorem dX7_propertyOf_104 : decode cX7_propertyOf 104 = .ok (.ireturn, 1) := by decide +kernel
theorem dX7_propertyOf_105 : decode cX7_propertyOf 105 = .ok (.aload_n 0, 1) := by decide +kernel
theorem dX7_propertyOf_106 : decode cX7_propertyOf 106 = .ok (.getfield 41, 3) := by decide +kernel
theorem dX7_propertyOf_109 : decode cX7_propertyOf 109 = .ok (.getfield 318, 3) := by decide +kernel
theorem dX7_propertyOf_112 : decode cX7_propertyOf 112 = .ok (.iload_n 1, 1) := by decide +kernel
theorem dX7_propertyOf_113 : decode cX7_propertyOf 113 = .ok (.iaload, 1) := by decide +kernel
theorem dX7_propertyOf_114 : decode cX7_propertyOf 114 = .ok (.ireturn, 1) := by decide +kernel
theorem dX7_propertyOf_115 : decode cX7_propertyOf 115 = .ok (.aload_n 0, 1) := by decide +kernel
theorem dX7_propertyOf_116 : decode cX7_propertyOf 116 = .ok (.getfield 48, 3) := by decide +kernel
theorem dX7_propertyOf_119 : decode cX7_propertyOf 119 = .ok (.aload_n 0, 1) := by decide +kernel
theorem dX7_propertyOf_120 : decode cX7_propertyOf 120 = .ok (.getfield 48, 3) := by decide +kernel
theorem dX7_propertyOf_123 : decode cX7_propertyOf 123 = .ok (.iconst 1, 1) := by decide +kernel
theorem dX7_propertyOf_124 : decode cX7_propertyOf 124 = .ok (.iload_n 1, 1) := by decide +kernel
theorem dX7_propertyOf_125 : decode cX7_propertyOf 125 = .ok (.ishl, 1) := by decide +kernel
theorem dX7_propertyOf_126 : decode cX7_propertyOf 126 = .ok (.invokevirtual 321, 3) := by decide +kernel
theorem dX7_propertyOf_129 : decode cX7_propertyOf 129 = .ok (.invokevirtual 324, 3) := by decide +kernel
theorem dX7_propertyOf_132 : decode cX7_propertyOf 132 = .ok (.ireturn, 1) := by decide +kernel
theorem dX7_propertyOf_133 : decode cX7_propertyOf 133 = .ok (.aload_n 0, 1) := by decide +kernel
theorem dX7_propertyOf_134 : decode cX7_propertyOf 134 = .ok (.getfield 12, 3) := by decide +kernel
theorem dX7_propertyOf_137 : decode cX7_propertyOf 137 = .ok (.getfield 141, 3) := by decide +kernel
theorem dX7_propertyOf_140 : decode cX7_propertyOf 140 = .ok (.iload_n 1, 1) := by decide +kernel
theorem dX7_propertyOf_141 : decode cX7_propertyOf 141 = .ok (.aaload, 1) := by decide +kernel
theorem dX7_propertyOf_142 : decode cX7_propertyOf 142 = .ok (.iload_n 2, 1) := by decide +kernel
theorem dX7_propertyOf_143 : decode cX7_propertyOf 143 = .ok (.bipush 10, 2) := by decide +kernel
theorem dX7_propertyOf_145 : decode cX7_propertyOf 145 = .ok (.isub, 1) := by decide +kernel
theorem dX7_propertyOf_146 : decode cX7_propertyOf 146 = .ok (.iaload, 1) := by decide +kernel
theorem dX7_propertyOf_147 : decode cX7_propertyOf 147 = .ok (.ireturn, 1) := by decide +kernel
theorem dX7_numberOf_0 : decode cX7_numberOf 0 = .ok (.iload_n 1, 1) := by decide +kernel
theorem dX7_numberOf_1 : decode cX7_numberOf 1 = .ok (.tableswitch 160 0 10 #[59, 67, 75, 83, 99, 108, 116, 124, 132, 150, 155], 59) := by decide +kernel
theorem dX7_numberOf_60 : decode cX7_numberOf 60 = .ok (.aload_n 0, 1) := by decide +kernel
theorem dX7_numberOf_61 : decode cX7_numberOf 61 = .ok (.getfield 12, 3) := by decide +kernel
theorem dX7_numberOf_64 : decode cX7_numberOf 64 = .ok (.getfield 77, 3) := by decide +kernel
theorem dX7_numberOf_67 : decode cX7_numberOf 67 = .ok (.ireturn, 1) := by decide +kernel
theorem dX7_numberOf_68 : decode cX7_numberOf 68 = .ok (.aload_n 0, 1) := by decide +kernel
theorem dX7_numberOf_69 : decode cX7_numberOf 69 = .ok (.getfield 12, 3) := by decide +kernel
theorem dX7_numberOf_72 : decode cX7_numberOf 72 = .ok (.getfield 155, 3) := by decide +kernel
theorem dX7_numberOf_75 : decode cX7_numberOf 75 = .ok (.ireturn, 1) := by decide +kernel
theorem dX7_numberOf_76 : decode cX7_numberOf 76 = .ok (.aload_n 0, 1) := by decide +kernel
theorem dX7_numberOf_77 : decode cX7_numberOf 77 = .ok (.getfield 12, 3) := by decide +kernel
theorem dX7_numberOf_80 : decode cX7_numberOf 80 = .ok (.invokevirtual 97, 3) := by decide +kernel
theorem dX7_numberOf_83 : decode cX7_numberOf 83 = .ok (.ireturn, 1) := by decide +kernel
theorem dX7_numberOf_84 : decode cX7_numberOf 84 = .ok (.aload_n 0, 1) := by decide +kernel
theorem dX7_numberOf_85 : decode cX7_numberOf 85 = .ok (.getfield 48, 3) := by decide +kernel
theorem dX7_numberOf_88 : decode cX7_numberOf 88 = .ok (.aload_n 0, 1) := by decide +kernel
theorem dX7_numberOf_89 : decode cX7_numberOf 89 = .ok (.getfield 48, 3) := by decide +kernel
theorem dX7_numberOf_92 : decode cX7_numberOf 92 = .ok (.iconst 0, 1) := by decide +kernel
theorem dX7_numberOf_93 : decode cX7_numberOf 93 = .ok (.invokevirtual 321, 3) := by decide +kernel
theorem dX7_numberOf_96 : decode cX7_numberOf 96 = .ok (.invokevirtual 324, 3) := by decide +kernel
theorem dX7_numberOf_99 : decode cX7_numberOf 99 = .ok (.ireturn, 1) := by decide +kernel
theorem dX7_numberOf_100 : decode cX7_numberOf 100 = .ok (.aload_n 0, 1) := by decide +kernel
theorem dX7_numberOf_101 : decode cX7_numberOf 101 = .ok (.getfield 48, 3) := by decide +kernel
theorem dX7_numberOf_104 : decode cX7_numberOf 104 = .ok (.iconst 0, 1) := by decide +kernel
theorem dX7_numberOf_105 : decode cX7_numberOf 105 = .ok (.invokevirtual 321, 3) := by decide +kernel
theorem dX7_numberOf_108 : decode cX7_numberOf 108 = .ok (.ireturn, 1) := by decide +kernel
theorem dX7_numberOf_109 : decode cX7_numberOf 109 = .ok (.aload_n 0, 1) := by decide +kernel
theorem dX7_numberOf_110 : decode cX7_numberOf 110 = .ok (.getfield 48, 3) := by decide +kernel
theorem dX7_numberOf_113 : decode cX7_numberOf 113 = .ok (.invokevirtual 327, 3) := by decide +kernel
theorem dX7_numberOf_116 : decode cX7_numberOf 116 = .ok (.ireturn, 1) := by decide +kernel
theorem dX7_numberOf_117 : decode cX7_numberOf 117 = .ok (.aload_n 0, 1) := by decide +kernel
theorem dX7_numberOf_118 : decode cX7_numberOf 118 = .ok (.getfield 41, 3) := by decide +kernel
theorem dX7_numberOf_121 : decode cX7_numberOf 121 = .ok (.getfield 152, 3) := by decide +kernel
theorem dX7_numberOf_124 : decode cX7_numberOf 124 = .ok (.ireturn, 1) := by decide +kernel
theorem dX7_numberOf_125 : decode cX7_numberOf 125 = .ok (.aload_n 0, 1) := by decide +kernel
theorem dX7_numberOf_126 : decode cX7_numberOf 126 = .ok (.getfield 12, 3) := by decide +kernel
theorem dX7_numberOf_129 : decode cX7_numberOf 129 = .ok (.invokevirtual 330, 3) := by decide +kernel
theorem dX7_numberOf_132 : decode cX7_numberOf 132 = .ok (.ireturn, 1) := by decide +kernel
theorem dX7_numberOf_133 : decode cX7_numberOf 133 = .ok (.aload_n 0, 1) := by decide +kernel
theorem dX7_numberOf_134 : decode cX7_numberOf 134 = .ok (.getfield 12, 3) := by decide +kernel
theorem dX7_numberOf_137 : decode cX7_numberOf 137 = .ok (.getfield 145, 3) := by decide +kernel
theorem dX7_numberOf_140 : decode cX7_numberOf 140 = .ok (.aload_n 0, 1) := by decide +kernel
theorem dX7_numberOf_141 : decode cX7_numberOf 141 = .ok (.getfield 12, 3) := by decide +kernel
theorem dX7_numberOf_144 : decode cX7_numberOf 144 = .ok (.getfield 145, 3) := by decide +kernel
theorem dX7_numberOf_147 : decode cX7_numberOf 147 = .ok (.invokestatic 314, 3) := by decide +kernel
theorem dX7_numberOf_150 : decode cX7_numberOf 150 = .ok (.ireturn, 1) := by decide +kernel
theorem dX7_numberOf_151 : decode cX7_numberOf 151 = .ok (.aload_n 0, 1) := by decide +kernel
theorem dX7_numberOf_152 : decode cX7_numberOf 152 = .ok (.getfield 66, 3) := by decide +kernel
theorem dX7_numberOf_155 : decode cX7_numberOf 155 = .ok (.ireturn, 1) := by decide +kernel
theorem dX7_numberOf_156 : decode cX7_numberOf 156 = .ok (.aload_n 0, 1) := by decide +kernel
theorem dX7_numberOf_157 : decode cX7_numberOf 157 = .ok (.invokevirtual 333, 3) := by decide +kernel
theorem dX7_numberOf_160 : decode cX7_numberOf 160 = .ok (.ireturn, 1) := by decide +kernel
theorem dX7_numberOf_161 : decode cX7_numberOf 161 = .ok (.aload_n 0, 1) := by decide +kernel
theorem dX7_numberOf_162 : decode cX7_numberOf 162 = .ok (.getfield 27, 3) := by decide +kernel
theorem dX7_numberOf_165 : decode cX7_numberOf 165 = .ok (.getfield 217, 3) := by decide +kernel
theorem dX7_numberOf_168 : decode cX7_numberOf 168 = .ok (.ireturn, 1) := by decide +kernel
theorem dX7_takenSnapshots_0 : decode cX7_takenSnapshots 0 = .ok (.iconst 0, 1) := by decide +kernel
theorem dX7_takenSnapshots_1 : decode cX7_takenSnapshots 1 = .ok (.istore_n 1, 1) := by decide +kernel
theorem dX7_takenSnapshots_2 : decode cX7_takenSnapshots 2 = .ok (.iconst 0, 1) := by decide +kernel
theorem dX7_takenSnapshots_3 : decode cX7_takenSnapshots 3 = .ok (.istore_n 2, 1) := by decide +kernel
theorem dX7_takenSnapshots_4 : decode cX7_takenSnapshots 4 = .ok (.iload_n 2, 1) := by decide +kernel
theorem dX7_takenSnapshots_5 : decode cX7_takenSnapshots 5 = .ok (.iconst 2, 1) := by decide +kernel
theorem dX7_takenSnapshots_6 : decode cX7_takenSnapshots 6 = .ok (.if_icmp .ge 26, 3) := by decide +kernel
theorem dX7_takenSnapshots_9 : decode cX7_takenSnapshots 9 = .ok (.iload_n 1, 1) := by decide +kernel
theorem dX7_takenSnapshots_10 : decode cX7_takenSnapshots 10 = .ok (.aload_n 0, 1) := by decide +kernel
theorem dX7_takenSnapshots_11 : decode cX7_takenSnapshots 11 = .ok (.getfield 20, 3) := by decide +kernel
theorem dX7_takenSnapshots_14 : decode cX7_takenSnapshots 14 = .ok (.iload_n 2, 1) := by decide +kernel
theorem dX7_takenSnapshots_15 : decode cX7_takenSnapshots 15 = .ok (.baload, 1) := by decide +kernel
theorem dX7_takenSnapshots_16 : decode cX7_takenSnapshots 16 = .ok (.ifCond .eq 7, 3) := by decide +kernel
theorem dX7_takenSnapshots_19 : decode cX7_takenSnapshots 19 = .ok (.iconst 1, 1) := by decide +kernel
theorem dX7_takenSnapshots_20 : decode cX7_takenSnapshots 20 = .ok (.goto 4, 3) := by decide +kernel
theorem dX7_takenSnapshots_23 : decode cX7_takenSnapshots 23 = .ok (.iconst 0, 1) := by decide +kernel
theorem dX7_takenSnapshots_24 : decode cX7_takenSnapshots 24 = .ok (.iadd, 1) := by decide +kernel
theorem dX7_takenSnapshots_25 : decode cX7_takenSnapshots 25 = .ok (.istore_n 1, 1) := by decide +kernel
theorem dX7_takenSnapshots_26 : decode cX7_takenSnapshots 26 = .ok (.iinc 2 1, 3) := by decide +kernel
theorem dX7_takenSnapshots_29 : decode cX7_takenSnapshots 29 = .ok (.goto (-25), 3) := by decide +kernel
theorem dX7_takenSnapshots_32 : decode cX7_takenSnapshots 32 = .ok (.iload_n 1, 1) := by decide +kernel
theorem dX7_takenSnapshots_33 : decode cX7_takenSnapshots 33 = .ok (.ireturn, 1) := by decide +kernel
theorem dX7_share_0 : decode cX7_share 0 = .ok (.aload_n 0, 1) := by decide +kernel
theorem dX7_share_1 : decode cX7_share 1 = .ok (.getfield 55, 3) := by decide +kernel
theorem dX7_share_4 : decode cX7_share 4 = .ok (.aload_n 0, 1) := by decide +kernel
theorem dX7_share_5 : decode cX7_share 5 = .ok (.getfield 12, 3) := by decide +kernel
theorem dX7_share_8 : decode cX7_share 8 = .ok (.invokevirtual 244, 3) := by decide +kernel
theorem dX7_share_11 : decode cX7_share 11 = .ok (.aload_n 0, 1) := by decide +kernel
theorem dX7_share_12 : decode cX7_share 12 = .ok (.getfield 55, 3) := by decide +kernel
theorem dX7_share_15 : decode cX7_share 15 = .ok (.getfield 336, 3) := by decide +kernel
theorem dX7_share_18 : decode cX7_share 18 = .ok (.lconst 0, 1) := by decide +kernel
theorem dX7_share_19 : decode cX7_share 19 = .ok (.lcmp, 1) := by decide +kernel
theorem dX7_share_20 : decode cX7_share 20 = .ok (.ifCond .gt 5, 3) := by decide +kernel
theorem dX7_share_23 : decode cX7_share 23 = .ok (.dconst 0, 1) := by decide +kernel
theorem dX7_share_24 : decode cX7_share 24 = .ok (.dreturn, 1) := by decide +kernel
theorem dX7_share_25 : decode cX7_share 25 = .ok (.aload_n 0, 1) := by decide +kernel
theorem dX7_share_26 : decode cX7_share 26 = .ok (.getfield 48, 3) := by decide +kernel
theorem dX7_share_29 : decode cX7_share 29 = .ok (.aload_n 0, 1) := by decide +kernel
theorem dX7_share_30 : decode cX7_share 30 = .ok (.getfield 48, 3) := by decide +kernel
theorem dX7_share_33 : decode cX7_share 33 = .ok (.iconst 0, 1) := by decide +kernel
theorem dX7_share_34 : decode cX7_share 34 = .ok (.invokevirtual 321, 3) := by decide +kernel
theorem dX7_share_37 : decode cX7_share 37 = .ok (.invokevirtual 324, 3) := by decide +kernel
theorem dX7_share_40 : decode cX7_share 40 = .ok (.i2d, 1) := by decide +kernel
theorem dX7_share_41 : decode cX7_share 41 = .ok (.dstore_n 1, 1) := by decide +kernel
theorem dX7_share_42 : decode cX7_share 42 = .ok (.dload_n 1, 1) := by decide +kernel
