theorem dX0_init_0 : decode cX0_init 0 = .ok (.aload_n 0, 1) := by decide +kernel
theorem dX0_init_1 : decode cX0_init 1 = .ok (.invokespecial 3, 3) := by decide +kernel
theorem dX0_init_4 : decode cX0_init 4 = .ok (.aload_n 0, 1) := by decide +kernel
theorem dX0_init_5 : decode cX0_init 5 = .ok (.iconst 0, 1) := by decide +kernel
theorem dX0_init_6 : decode cX0_init 6 = .ok (.putfield 9, 3) := by decide +kernel
theorem dX0_init_9 : decode cX0_init 9 = .ok (.aload_n 0, 1) := by decide +kernel
theorem dX0_init_10 : decode cX0_init 10 = .ok (.ldc2_w 15, 3) := by decide +kernel
theorem dX0_init_13 : decode cX0_init 13 = .ok (.putfield 17, 3) := by decide +kernel
theorem dX0_init_16 : decode cX0_init 16 = .ok (.aload_n 0, 1) := by decide +kernel
theorem dX0_init_17 : decode cX0_init 17 = .ok (.ldc2_w 15, 3) := by decide +kernel
theorem dX0_init_20 : decode cX0_init 20 = .ok (.putfield 21, 3) := by decide +kernel
theorem dX0_init_23 : decode cX0_init 23 = .ok (.aload_n 0, 1) := by decide +kernel
theorem dX0_init_24 : decode cX0_init 24 = .ok (.iconst (-1), 1) := by decide +kernel
theorem dX0_init_25 : decode cX0_init 25 = .ok (.putfield 24, 3) := by decide +kernel
theorem dX0_init_28 : decode cX0_init 28 = .ok (.return_, 1) := by decide +kernel
theorem dX0_tellOf_0 : decode cX0_tellOf 0 = .ok (.aload_n 1, 1) := by decide +kernel
theorem dX0_tellOf_1 : decode cX0_tellOf 1 = .ok (.invokevirtual 28, 3) := by decide +kernel
theorem dX0_tellOf_4 : decode cX0_tellOf 4 = .ok (.iconst (-1), 1) := by decide +kernel
theorem dX0_tellOf_5 : decode cX0_tellOf 5 = .ok (.if_icmp .eq 8, 3) := by decide +kernel
theorem dX0_tellOf_8 : decode cX0_tellOf 8 = .ok (.aload_n 0, 1) := by decide +kernel
theorem dX0_tellOf_9 : decode cX0_tellOf 9 = .ok (.invokevirtual 34, 3) := by decide +kernel
theorem dX0_tellOf_12 : decode cX0_tellOf 12 = .ok (.return_, 1) := by decide +kernel
theorem dX0_tellOf_13 : decode cX0_tellOf 13 = .ok (.aload_n 0, 1) := by decide +kernel
theorem dX0_tellOf_14 : decode cX0_tellOf 14 = .ok (.aload_n 1, 1) := by decide +kernel
theorem dX0_tellOf_15 : decode cX0_tellOf 15 = .ok (.aload_n 1, 1) := by decide +kernel
theorem dX0_tellOf_16 : decode cX0_tellOf 16 = .ok (.getfield 37, 3) := by decide +kernel
theorem dX0_tellOf_19 : decode cX0_tellOf 19 = .ok (.invokevirtual 41, 3) := by decide +kernel
theorem dX0_tellOf_22 : decode cX0_tellOf 22 = .ok (.aload_n 0, 1) := by decide +kernel
theorem dX0_tellOf_23 : decode cX0_tellOf 23 = .ok (.invokevirtual 45, 3) := by decide +kernel
theorem dX0_tellOf_26 : decode cX0_tellOf 26 = .ok (.return_, 1) := by decide +kernel
theorem dX0_tellNone_0 : decode cX0_tellNone 0 = .ok (.aload_n 0, 1) := by decide +kernel
theorem dX0_tellNone_1 : decode cX0_tellNone 1 = .ok (.iconst 0, 1) := by decide +kernel
theorem dX0_tellNone_2 : decode cX0_tellNone 2 = .ok (.putfield 9, 3) := by decide +kernel
theorem dX0_tellNone_5 : decode cX0_tellNone 5 = .ok (.aload_n 0, 1) := by decide +kernel
theorem dX0_tellNone_6 : decode cX0_tellNone 6 = .ok (.ldc2_w 15, 3) := by decide +kernel
theorem dX0_tellNone_9 : decode cX0_tellNone 9 = .ok (.putfield 17, 3) := by decide +kernel
theorem dX0_tellNone_12 : decode cX0_tellNone 12 = .ok (.aload_n 0, 1) := by decide +kernel
theorem dX0_tellNone_13 : decode cX0_tellNone 13 = .ok (.ldc2_w 15, 3) := by decide +kernel
theorem dX0_tellNone_16 : decode cX0_tellNone 16 = .ok (.putfield 21, 3) := by decide +kernel
theorem dX0_tellNone_19 : decode cX0_tellNone 19 = .ok (.aload_n 0, 1) := by decide +kernel
theorem dX0_tellNone_20 : decode cX0_tellNone 20 = .ok (.iconst (-1), 1) := by decide +kernel
theorem dX0_tellNone_21 : decode cX0_tellNone 21 = .ok (.putfield 24, 3) := by decide +kernel
theorem dX0_tellNone_24 : decode cX0_tellNone 24 = .ok (.return_, 1) := by decide +kernel
theorem dX0_measure_0 : decode cX0_measure 0 = .ok (.aload_n 1, 1) := by decide +kernel
theorem dX0_measure_1 : decode cX0_measure 1 = .ok (.aload_n 2, 1) := by decide +kernel
theorem dX0_measure_2 : decode cX0_measure 2 = .ok (.invokevirtual 48, 3) := by decide +kernel
theorem dX0_measure_5 : decode cX0_measure 5 = .ok (.iconst (-1), 1) := by decide +kernel
theorem dX0_measure_6 : decode cX0_measure 6 = .ok (.if_icmp .eq 8, 3) := by decide +kernel
theorem dX0_measure_9 : decode cX0_measure 9 = .ok (.aload_n 0, 1) := by decide +kernel
theorem dX0_measure_10 : decode cX0_measure 10 = .ok (.invokevirtual 34, 3) := by decide +kernel
theorem dX0_measure_13 : decode cX0_measure 13 = .ok (.return_, 1) := by decide +kernel
theorem dX0_measure_14 : decode cX0_measure 14 = .ok (.aload_n 0, 1) := by decide +kernel
theorem dX0_measure_15 : decode cX0_measure 15 = .ok (.iconst 1, 1) := by decide +kernel
theorem dX0_measure_16 : decode cX0_measure 16 = .ok (.putfield 9, 3) := by decide +kernel
theorem dX0_measure_19 : decode cX0_measure 19 = .ok (.aload_n 0, 1) := by decide +kernel
theorem dX0_measure_20 : decode cX0_measure 20 = .ok (.lconst 0, 1) := by decide +kernel
theorem dX0_measure_21 : decode cX0_measure 21 = .ok (.putfield 17, 3) := by decide +kernel
theorem dX0_measure_24 : decode cX0_measure 24 = .ok (.aload_n 0, 1) := by decide +kernel
theorem dX0_measure_25 : decode cX0_measure 25 = .ok (.lconst 1, 1) := by decide +kernel
theorem dX0_measure_26 : decode cX0_measure 26 = .ok (.putfield 21, 3) := by decide +kernel
theorem dX0_measure_29 : decode cX0_measure 29 = .ok (.aload_n 0, 1) := by decide +kernel
theorem dX0_measure_30 : decode cX0_measure 30 = .ok (.iconst (-1), 1) := by decide +kernel
theorem dX0_measure_31 : decode cX0_measure 31 = .ok (.putfield 24, 3) := by decide +kernel
theorem dX0_measure_34 : decode cX0_measure 34 = .ok (.aload_n 2, 1) := by decide +kernel
theorem dX0_measure_35 : decode cX0_measure 35 = .ok (.aload_n 2, 1) := by decide +kernel
theorem dX0_measure_36 : decode cX0_measure 36 = .ok (.invokestatic 52, 3) := by decide +kernel
theorem dX0_measure_39 : decode cX0_measure 39 = .ok (.i2l, 1) := by decide +kernel
theorem dX0_measure_40 : decode cX0_measure 40 = .ok (.lstore_n 3, 1) := by decide +kernel
theorem dX0_measure_41 : decode cX0_measure 41 = .ok (.iconst 0, 1) := by decide +kernel
theorem dX0_measure_42 : decode cX0_measure 42 = .ok (.istore 5, 2) := by decide +kernel
theorem dX0_measure_44 : decode cX0_measure 44 = .ok (.iload 5, 2) := by decide +kernel
theorem dX0_measure_46 : decode cX0_measure 46 = .ok (.aload_n 1, 1) := by decide +kernel
theorem dX0_measure_47 : decode cX0_measure 47 = .ok (.getfield 56, 3) := by decide +kernel
theorem dX0_measure_50 : decode cX0_measure 50 = .ok (.if_icmp .ge 67, 3) := by decide +kernel
theorem dX0_measure_53 : decode cX0_measure 53 = .ok (.aload_n 1, 1) := by decide +kernel
theorem dX0_measure_54 : decode cX0_measure 54 = .ok (.getfield 59, 3) := by decide +kernel
theorem dX0_measure_57 : decode cX0_measure 57 = .ok (.iload 5, 2) := by decide +kernel
theorem dX0_measure_59 : decode cX0_measure 59 = .ok (.iaload, 1) := by decide +kernel
theorem dX0_measure_60 : decode cX0_measure 60 = .ok (.ifCond .le 51, 3) := by decide +kernel
theorem dX0_measure_63 : decode cX0_measure 63 = .ok (.aload_n 1, 1) := by decide +kernel
theorem dX0_measure_64 : decode cX0_measure 64 = .ok (.getfield 62, 3) := by decide +kernel
theorem dX0_measure_67 : decode cX0_measure 67 = .ok (.iload 5, 2) := by decide +kernel
theorem dX0_measure_69 : decode cX0_measure 69 = .ok (.aaload, 1) := by decide +kernel
theorem dX0_measure_70 : decode cX0_measure 70 = .ok (.astore 6, 2) := by decide +kernel
theorem dX0_measure_72 : decode cX0_measure 72 = .ok (.aload_n 2, 1) := by decide +kernel
theorem dX0_measure_73 : decode cX0_measure 73 = .ok (.aload 6, 2) := by decide +kernel
theorem dX0_measure_75 : decode cX0_measure 75 = .ok (.invokestatic 52, 3) := by decide +kernel
theorem dX0_measure_78 : decode cX0_measure 78 = .ok (.i2l, 1) := by decide +kernel
theorem dX0_measure_79 : decode cX0_measure 79 = .ok (.lstore 7, 2) := by decide +kernel
theorem dX0_measure_81 : decode cX0_measure 81 = .ok (.aload_n 0, 1) := by decide +kernel
theorem dX0_measure_82 : decode cX0_measure 82 = .ok (.aload_n 1, 1) := by decide +kernel
theorem dX0_measure_83 : decode cX0_measure 83 = .ok (.getfield 59, 3) := by decide +kernel
theorem dX0_measure_86 : decode cX0_measure 86 = .ok (.iload 5, 2) := by decide +kernel
theorem dX0_measure_88 : decode cX0_measure 88 = .ok (.iaload, 1) := by decide +kernel
theorem dX0_measure_89 : decode cX0_measure 89 = .ok (.i2l, 1) := by decide +kernel
theorem dX0_measure_90 : decode cX0_measure 90 = .ok (.lload_n 3, 1) := by decide +kernel
theorem dX0_measure_91 : decode cX0_measure 91 = .ok (.lmul, 1) := by decide +kernel
theorem dX0_measure_92 : decode cX0_measure 92 = .ok (.aload 6, 2) := by decide +kernel
theorem dX0_measure_94 : decode cX0_measure 94 = .ok (.aload 6, 2) := by decide +kernel
theorem dX0_measure_96 : decode cX0_measure 96 = .ok (.invokestatic 52, 3) := by decide +kernel
theorem dX0_measure_99 : decode cX0_measure 99 = .ok (.i2l, 1) := by decide +kernel
theorem dX0_measure_100 : decode cX0_measure 100 = .ok (.lmul, 1) := by decide +kernel
theorem dX0_measure_101 : decode cX0_measure 101 = .ok (.lload 7, 2) := by decide +kernel
theorem dX0_measure_103 : decode cX0_measure 103 = .ok (.lload 7, 2) := by decide +kernel
theorem dX0_measure_105 : decode cX0_measure 105 = .ok (.lmul, 1) := by decide +kernel
theorem dX0_measure_106 : decode cX0_measure 106 = .ok (.iload 5, 2) := by decide +kernel
theorem dX0_measure_108 : decode cX0_measure 108 = .ok (.invokevirtual 66, 3) := by decide +kernel
theorem dX0_measure_111 : decode cX0_measure 111 = .ok (.iinc 5 1, 3) := by decide +kernel
theorem dX0_measure_114 : decode cX0_measure 114 = .ok (.goto (-70), 3) := by decide +kernel
theorem dX0_measure_117 : decode cX0_measure 117 = .ok (.return_, 1) := by decide +kernel
theorem dX0_raise_0 : decode cX0_raise 0 = .ok (.lload_n 1, 1) := by decide +kernel
theorem dX0_raise_1 : decode cX0_raise 1 = .ok (.aload_n 0, 1) := by decide +kernel
theorem dX0_raise_2 : decode cX0_raise 2 = .ok (.getfield 21, 3) := by decide +kernel
theorem dX0_raise_5 : decode cX0_raise 5 = .ok (.lmul, 1) := by decide +kernel
theorem dX0_raise_6 : decode cX0_raise 6 = .ok (.aload_n 0, 1) := by decide +kernel
theorem dX0_raise_7 : decode cX0_raise 7 = .ok (.getfield 17, 3) := by decide +kernel
theorem dX0_raise_10 : decode cX0_raise 10 = .ok (.lload_n 3, 1) := by decide +kernel
theorem dX0_raise_11 : decode cX0_raise 11 = .ok (.lmul, 1) := by decide +kernel
theorem dX0_raise_12 : decode cX0_raise 12 = .ok (.lcmp, 1) := by decide +kernel
theorem dX0_raise_13 : decode cX0_raise 13 = .ok (.ifCond .le 19, 3) := by decide +kernel
theorem dX0_raise_16 : decode cX0_raise 16 = .ok (.aload_n 0, 1) := by decide +kernel
theorem dX0_raise_17 : decode cX0_raise 17 = .ok (.lload_n 1, 1) := by decide +kernel
theorem dX0_raise_18 : decode cX0_raise 18 = .ok (.putfield 17, 3) := by decide +kernel
theorem dX0_raise_21 : decode cX0_raise 21 = .ok (.aload_n 0, 1) := by decide +kernel
theorem dX0_raise_22 : decode cX0_raise 22 = .ok (.lload_n 3, 1) := by decide +kernel
theorem dX0_raise_23 : decode cX0_raise 23 = .ok (.putfield 21, 3) := by decide +kernel
theorem dX0_raise_26 : decode cX0_raise 26 = .ok (.aload_n 0, 1) := by decide +kernel
theorem dX0_raise_27 : decode cX0_raise 27 = .ok (.iload 5, 2) := by decide +kernel
theorem dX0_raise_29 : decode cX0_raise 29 = .ok (.putfield 24, 3) := by decide +kernel
theorem dX0_raise_32 : decode cX0_raise 32 = .ok (.return_, 1) := by decide +kernel
theorem dX0_isLessThan_0 : decode cX0_isLessThan 0 = .ok (.aload_n 0, 1) := by decide +kernel
theorem dX0_isLessThan_1 : decode cX0_isLessThan 1 = .ok (.getfield 17, 3) := by decide +kernel
theorem dX0_isLessThan_4 : decode cX0_isLessThan 4 = .ok (.aload_n 1, 1) := by decide +kernel
theorem dX0_isLessThan_5 : decode cX0_isLessThan 5 = .ok (.getfield 21, 3) := by decide +kernel
theorem dX0_isLessThan_8 : decode cX0_isLessThan 8 = .ok (.lmul, 1) := by decide +kernel
theorem dX0_isLessThan_9 : decode cX0_isLessThan 9 = .ok (.aload_n 1, 1) := by decide +kernel
theorem dX0_isLessThan_10 : decode cX0_isLessThan 10 = .ok (.getfield 17, 3) := by decide +kernel
theorem dX0_isLessThan_13 : decode cX0_isLessThan 13 = .ok (.aload_n 0, 1) := by decide +kernel
theorem dX0_isLessThan_14 : decode cX0_isLessThan 14 = .ok (.getfield 21, 3) := by decide +kernel
theorem dX0_isLessThan_17 : decode cX0_isLessThan 17 = .ok (.lmul, 1) := by decide +kernel
theorem dX0_isLessThan_18 : decode cX0_isLessThan 18 = .ok (.lcmp, 1) := by decide +kernel
theorem dX0_isLessThan_19 : decode cX0_isLessThan 19 = .ok (.ifCond .ge 7, 3) := by decide +kernel
theorem dX0_isLessThan_22 : decode cX0_isLessThan 22 = .ok (.iconst 1, 1) := by decide +kernel
theorem dX0_isLessThan_23 : decode cX0_isLessThan 23 = .ok (.goto 4, 3) := by decide +kernel
theorem dX0_isLessThan_26 : decode cX0_isLessThan 26 = .ok (.iconst 0, 1) := by decide +kernel
theorem dX0_isLessThan_27 : decode cX0_isLessThan 27 = .ok (.ireturn, 1) := by decide +kernel
theorem dX0_copyFrom_0 : decode cX0_copyFrom 0 = .ok (.aload_n 0, 1) := by decide +kernel
theorem dX0_copyFrom_1 : decode cX0_copyFrom 1 = .ok (.aload_n 1, 1) := by decide +kernel
theorem dX0_copyFrom_2 : decode cX0_copyFrom 2 = .ok (.getfield 9, 3) := by decide +kernel
theorem dX0_copyFrom_5 : decode cX0_copyFrom 5 = .ok (.putfield 9, 3) := by decide +kernel
theorem dX0_copyFrom_8 : decode cX0_copyFrom 8 = .ok (.aload_n 0, 1) := by decide +kernel
theorem dX0_copyFrom_9 : decode cX0_copyFrom 9 = .ok (.aload_n 1, 1) := by decide +kernel
theorem dX0_copyFrom_10 : decode cX0_copyFrom 10 = .ok (.getfield 17, 3) := by decide +kernel
theorem dX0_copyFrom_13 : decode cX0_copyFrom 13 = .ok (.putfield 17, 3) := by decide +kernel
theorem dX0_copyFrom_16 : decode cX0_copyFrom 16 = .ok (.aload_n 0, 1) := by decide +kernel
theorem dX0_copyFrom_17 : decode cX0_copyFrom 17 = .ok (.aload_n 1, 1) := by decide +kernel
theorem dX0_copyFrom_18 : decode cX0_copyFrom 18 = .ok (.getfield 21, 3) := by decide +kernel
theorem dX0_copyFrom_21 : decode cX0_copyFrom 21 = .ok (.putfield 21, 3) := by decide +kernel
theorem dX0_copyFrom_24 : decode cX0_copyFrom 24 = .ok (.aload_n 0, 1) := by decide +kernel
theorem dX0_copyFrom_25 : decode cX0_copyFrom 25 = .ok (.aload_n 1, 1) := by decide +kernel
theorem dX0_copyFrom_26 : decode cX0_copyFrom 26 = .ok (.getfield 24, 3) := by decide +kernel
theorem dX0_copyFrom_29 : decode cX0_copyFrom 29 = .ok (.putfield 24, 3) := by decide +kernel
theorem dX0_copyFrom_32 : decode cX0_copyFrom 32 = .ok (.return_, 1) := by decide +kernel
theorem dX0_reduce_0 : decode cX0_reduce 0 = .ok (.aload_n 0, 1) := by decide +kernel
theorem dX0_reduce_1 : decode cX0_reduce 1 = .ok (.getfield 9, 3) := by decide +kernel
theorem dX0_reduce_4 : decode cX0_reduce 4 = .ok (.ifCond .ne 4, 3) := by decide +kernel
theorem dX0_reduce_7 : decode cX0_reduce 7 = .ok (.return_, 1) := by decide +kernel
theorem dX0_reduce_8 : decode cX0_reduce 8 = .ok (.aload_n 0, 1) := by decide +kernel
theorem dX0_reduce_9 : decode cX0_reduce 9 = .ok (.getfield 17, 3) := by decide +kernel
theorem dX0_reduce_12 : decode cX0_reduce 12 = .ok (.lstore_n 1, 1) := by decide +kernel
theorem dX0_reduce_13 : decode cX0_reduce 13 = .ok (.aload_n 0, 1) := by decide +kernel
theorem dX0_reduce_14 : decode cX0_reduce 14 = .ok (.getfield 21, 3) := by decide +kernel
theorem dX0_reduce_17 : decode cX0_reduce 17 = .ok (.lstore_n 3, 1) := by decide +kernel
theorem dX0_reduce_18 : decode cX0_reduce 18 = .ok (.iconst 0, 1) := by decide +kernel
theorem dX0_reduce_19 : decode cX0_reduce 19 = .ok (.istore 5, 2) := by decide +kernel
theorem dX0_reduce_21 : decode cX0_reduce 21 = .ok (.iload 5, 2) := by decide +kernel
theorem dX0_reduce_23 : decode cX0_reduce 23 = .ok (.bipush 100, 2) := by decide +kernel
theorem dX0_reduce_25 : decode cX0_reduce 25 = .ok (.if_icmp .ge 25, 3) := by decide +kernel
theorem dX0_reduce_28 : decode cX0_reduce 28 = .ok (.lload_n 3, 1) := by decide +kernel
theorem dX0_reduce_29 : decode cX0_reduce 29 = .ok (.lconst 0, 1) := by decide +kernel
theorem dX0_reduce_30 : decode cX0_reduce 30 = .ok (.lcmp, 1) := by decide +kernel
theorem dX0_reduce_31 : decode cX0_reduce 31 = .ok (.ifCond .eq 19, 3) := by decide +kernel
theorem dX0_reduce_34 : decode cX0_reduce 34 = .ok (.lload_n 1, 1) := by decide +kernel
theorem dX0_reduce_35 : decode cX0_reduce 35 = .ok (.lload_n 3, 1) := by decide +kernel
theorem dX0_reduce_36 : decode cX0_reduce 36 = .ok (.lrem, 1) := by decide +kernel
theorem dX0_reduce_37 : decode cX0_reduce 37 = .ok (.lstore 6, 2) := by decide +kernel
theorem dX0_reduce_39 : decode cX0_reduce 39 = .ok (.lload_n 3, 1) := by decide +kernel
theorem dX0_reduce_40 : decode cX0_reduce 40 = .ok (.lstore_n 1, 1) := by decide +kernel
theorem dX0_reduce_41 : decode cX0_reduce 41 = .ok (.lload 6, 2) := by decide +kernel
theorem dX0_reduce_43 : decode cX0_reduce 43 = .ok (.lstore_n 3, 1) := by decide +kernel
theorem dX0_reduce_44 : decode cX0_reduce 44 = .ok (.iinc 5 1, 3) := by decide +kernel
theorem dX0_reduce_47 : decode cX0_reduce 47 = .ok (.goto (-26), 3) := by decide +kernel
theorem dX0_reduce_50 : decode cX0_reduce 50 = .ok (.lload_n 1, 1) := by decide +kernel
theorem dX0_reduce_51 : decode cX0_reduce 51 = .ok (.lconst 1, 1) := by decide +kernel
theorem dX0_reduce_52 : decode cX0_reduce 52 = .ok (.lcmp, 1) := by decide +kernel
theorem dX0_reduce_53 : decode cX0_reduce 53 = .ok (.ifCond .le 23, 3) := by decide +kernel
theorem dX0_reduce_56 : decode cX0_reduce 56 = .ok (.aload_n 0, 1) := by decide +kernel
theorem dX0_reduce_57 : decode cX0_reduce 57 = .ok (.dup, 1) := by decide +kernel
theorem dX0_reduce_58 : decode cX0_reduce 58 = .ok (.getfield 17, 3) := by decide +kernel
theorem dX0_reduce_61 : decode cX0_reduce 61 = .ok (.lload_n 1, 1) := by decide +kernel
theorem dX0_reduce_62 : decode cX0_reduce 62 = .ok (.ldiv, 1) := by decide +kernel
theorem dX0_reduce_63 : decode cX0_reduce 63 = .ok (.putfield 17, 3) := by decide +kernel
theorem dX0_reduce_66 : decode cX0_reduce 66 = .ok (.aload_n 0, 1) := by decide +kernel
theorem dX0_reduce_67 : decode cX0_reduce 67 = .ok (.dup, 1) := by decide +kernel
theorem dX0_reduce_68 : decode cX0_reduce 68 = .ok (.getfield 21, 3) := by decide +kernel
theorem dX0_reduce_71 : decode cX0_reduce 71 = .ok (.lload_n 1, 1) := by decide +kernel
theorem dX0_reduce_72 : decode cX0_reduce 72 = .ok (.ldiv, 1) := by decide +kernel
theorem dX0_reduce_73 : decode cX0_reduce 73 = .ok (.putfield 21, 3) := by decide +kernel
theorem dX0_reduce_76 : decode cX0_reduce 76 = .ok (.return_, 1) := by decide +kernel
theorem dX0_partOf_0 : decode cX0_partOf 0 = .ok (.iload_n 1, 1) := by decide +kernel
theorem dX0_partOf_1 : decode cX0_partOf 1 = .ok (.ifCond .ne 10, 3) := by decide +kernel
theorem dX0_partOf_4 : decode cX0_partOf 4 = .ok (.aload_n 0, 1) := by decide +kernel
theorem dX0_partOf_5 : decode cX0_partOf 5 = .ok (.getfield 17, 3) := by decide +kernel
theorem dX0_partOf_8 : decode cX0_partOf 8 = .ok (.goto 20, 3) := by decide +kernel
theorem dX0_partOf_11 : decode cX0_partOf 11 = .ok (.iload_n 1, 1) := by decide +kernel
theorem dX0_partOf_12 : decode cX0_partOf 12 = .ok (.iconst 1, 1) := by decide +kernel
theorem dX0_partOf_13 : decode cX0_partOf 13 = .ok (.if_icmp .ne 10, 3) := by decide +kernel
theorem dX0_partOf_16 : decode cX0_partOf 16 = .ok (.aload_n 0, 1) := by decide +kernel
theorem dX0_partOf_17 : decode cX0_partOf 17 = .ok (.getfield 21, 3) := by decide +kernel
theorem dX0_partOf_20 : decode cX0_partOf 20 = .ok (.goto 8, 3) := by decide +kernel
theorem dX0_partOf_23 : decode cX0_partOf 23 = .ok (.aload_n 0, 1) := by decide +kernel
theorem dX0_partOf_24 : decode cX0_partOf 24 = .ok (.getfield 24, 3) := by decide +kernel
theorem dX0_partOf_27 : decode cX0_partOf 27 = .ok (.i2l, 1) := by decide +kernel
theorem dX0_partOf_28 : decode cX0_partOf 28 = .ok (.lreturn, 1) := by decide +kernel
theorem dX1_init_0 : decode cX1_init 0 = .ok (.aload_n 0, 1) := by decide +kernel
theorem dX1_init_1 : decode cX1_init 1 = .ok (.invokespecial 3, 3) := by decide +kernel
theorem dX1_init_4 : decode cX1_init 4 = .ok (.aload_n 0, 1) := by decide +kernel
theorem dX1_init_5 : decode cX1_init 5 = .ok (.sipush 256, 3) := by decide +kernel
theorem dX1_init_8 : decode cX1_init 8 = .ok (.newarray .int, 2) := by decide +kernel
theorem dX1_init_10 : decode cX1_init 10 = .ok (.putfield 9, 3) := by decide +kernel
theorem dX1_init_13 : decode cX1_init 13 = .ok (.aload_n 0, 1) := by decide +kernel
theorem dX1_init_14 : decode cX1_init 14 = .ok (.iconst 1, 1) := by decide +kernel
theorem dX1_init_15 : decode cX1_init 15 = .ok (.putfield 15, 3) := by decide +kernel
theorem dX1_init_18 : decode cX1_init 18 = .ok (.return_, 1) := by decide +kernel
theorem dX1_find_0 : decode cX1_find 0 = .ok (.aload_n 0, 1) := by decide +kernel
theorem dX1_find_1 : decode cX1_find 1 = .ok (.getfield 9, 3) := by decide +kernel
theorem dX1_find_4 : decode cX1_find 4 = .ok (.iconst 0, 1) := by decide +kernel
theorem dX1_find_5 : decode cX1_find 5 = .ok (.iconst 0, 1) := by decide +kernel
theorem dX1_find_6 : decode cX1_find 6 = .ok (.iastore, 1) := by decide +kernel
theorem dX1_find_7 : decode cX1_find 7 = .ok (.aload_n 0, 1) := by decide +kernel
theorem dX1_find_8 : decode cX1_find 8 = .ok (.iconst 1, 1) := by decide +kernel
theorem dX1_find_9 : decode cX1_find 9 = .ok (.putfield 15, 3) := by decide +kernel
theorem dX1_find_12 : decode cX1_find 12 = .ok (.iconst 0, 1) := by decide +kernel
theorem dX1_find_13 : decode cX1_find 13 = .ok (.istore_n 2, 1) := by decide +kernel
theorem dX1_find_14 : decode cX1_find 14 = .ok (.iload_n 2, 1) := by decide +kernel
theorem dX1_find_15 : decode cX1_find 15 = .ok (.aload_n 1, 1) := by decide +kernel
theorem dX1_find_16 : decode cX1_find 16 = .ok (.getfield 19, 3) := by decide +kernel
theorem dX1_find_19 : decode cX1_find 19 = .ok (.if_icmp .ge 98, 3) := by decide +kernel
theorem dX1_find_22 : decode cX1_find 22 = .ok (.iconst 0, 1) := by decide +kernel
theorem dX1_find_23 : decode cX1_find 23 = .ok (.istore_n 3, 1) := by decide +kernel
theorem dX1_find_24 : decode cX1_find 24 = .ok (.iload_n 3, 1) := by decide +kernel
theorem dX1_find_25 : decode cX1_find 25 = .ok (.aload_n 0, 1) := by decide +kernel
theorem dX1_find_26 : decode cX1_find 26 = .ok (.getfield 15, 3) := by decide +kernel
theorem dX1_find_29 : decode cX1_find 29 = .ok (.if_icmp .ge 72, 3) := by decide +kernel
theorem dX1_find_32 : decode cX1_find 32 = .ok (.aload_n 0, 1) := by decide +kernel
theorem dX1_find_33 : decode cX1_find 33 = .ok (.getfield 9, 3) := by decide +kernel
theorem dX1_find_36 : decode cX1_find 36 = .ok (.iload_n 3, 1) := by decide +kernel
theorem dX1_find_37 : decode cX1_find 37 = .ok (.iaload, 1) := by decide +kernel
theorem dX1_find_38 : decode cX1_find 38 = .ok (.iconst (-1), 1) := by decide +kernel
theorem dX1_find_39 : decode cX1_find 39 = .ok (.if_icmp .eq 20, 3) := by decide +kernel
theorem dX1_find_42 : decode cX1_find 42 = .ok (.iload_n 3, 1) := by decide +kernel
theorem dX1_find_43 : decode cX1_find 43 = .ok (.aload_n 1, 1) := by decide +kernel
theorem dX1_find_44 : decode cX1_find 44 = .ok (.getfield 24, 3) := by decide +kernel
theorem dX1_find_47 : decode cX1_find 47 = .ok (.iload_n 2, 1) := by decide +kernel
theorem dX1_find_48 : decode cX1_find 48 = .ok (.iaload, 1) := by decide +kernel
theorem dX1_find_49 : decode cX1_find 49 = .ok (.iconst (-1), 1) := by decide +kernel
theorem dX1_find_50 : decode cX1_find 50 = .ok (.ixor, 1) := by decide +kernel
theorem dX1_find_51 : decode cX1_find 51 = .ok (.iand, 1) := by decide +kernel
theorem dX1_find_52 : decode cX1_find 52 = .ok (.ifCond .ne 7, 3) := by decide +kernel
theorem dX1_find_55 : decode cX1_find 55 = .ok (.iconst 1, 1) := by decide +kernel
theorem dX1_find_56 : decode cX1_find 56 = .ok (.goto 4, 3) := by decide +kernel
theorem dX1_find_59 : decode cX1_find 59 = .ok (.iconst 0, 1) := by decide +kernel
theorem dX1_find_60 : decode cX1_find 60 = .ok (.istore 4, 2) := by decide +kernel
theorem dX1_find_62 : decode cX1_find 62 = .ok (.aload_n 0, 1) := by decide +kernel
theorem dX1_find_63 : decode cX1_find 63 = .ok (.getfield 9, 3) := by decide +kernel
theorem dX1_find_66 : decode cX1_find 66 = .ok (.aload_n 0, 1) := by decide +kernel
theorem dX1_find_67 : decode cX1_find 67 = .ok (.getfield 15, 3) := by decide +kernel
theorem dX1_find_70 : decode cX1_find 70 = .ok (.iload_n 3, 1) := by decide +kernel
theorem dX1_find_71 : decode cX1_find 71 = .ok (.iadd, 1) := by decide +kernel
theorem dX1_find_72 : decode cX1_find 72 = .ok (.iload 4, 2) := by decide +kernel
theorem dX1_find_74 : decode cX1_find 74 = .ok (.ifCond .eq 19, 3) := by decide +kernel
theorem dX1_find_77 : decode cX1_find 77 = .ok (.aload_n 0, 1) := by decide +kernel
theorem dX1_find_78 : decode cX1_find 78 = .ok (.getfield 9, 3) := by decide +kernel
theorem dX1_find_81 : decode cX1_find 81 = .ok (.iload_n 3, 1) := by decide +kernel
theorem dX1_find_82 : decode cX1_find 82 = .ok (.iaload, 1) := by decide +kernel
theorem dX1_find_83 : decode cX1_find 83 = .ok (.aload_n 1, 1) := by decide +kernel
theorem dX1_find_84 : decode cX1_find 84 = .ok (.getfield 27, 3) := by decide +kernel
theorem dX1_find_87 : decode cX1_find 87 = .ok (.iload_n 2, 1) := by decide +kernel
theorem dX1_find_88 : decode cX1_find 88 = .ok (.iaload, 1) := by decide +kernel
theorem dX1_find_89 : decode cX1_find 89 = .ok (.iadd, 1) := by decide +kernel
theorem dX1_find_90 : decode cX1_find 90 = .ok (.goto 4, 3) := by decide +kernel
theorem dX1_find_93 : decode cX1_find 93 = .ok (.iconst (-1), 1) := by decide +kernel
theorem dX1_find_94 : decode cX1_find 94 = .ok (.iastore, 1) := by decide +kernel
theorem dX1_find_95 : decode cX1_find 95 = .ok (.iinc 3 1, 3) := by decide +kernel
theorem dX1_find_98 : decode cX1_find 98 = .ok (.goto (-74), 3) := by decide +kernel
theorem dX1_find_101 : decode cX1_find 101 = .ok (.aload_n 0, 1) := by decide +kernel
theorem dX1_find_102 : decode cX1_find 102 = .ok (.dup, 1) := by decide +kernel
theorem dX1_find_103 : decode cX1_find 103 = .ok (.getfield 15, 3) := by decide +kernel
theorem dX1_find_106 : decode cX1_find 106 = .ok (.iconst 2, 1) := by decide +kernel
theorem dX1_find_107 : decode cX1_find 107 = .ok (.imul, 1) := by decide +kernel
theorem dX1_find_108 : decode cX1_find 108 = .ok (.putfield 15, 3) := by decide +kernel
theorem dX1_find_111 : decode cX1_find 111 = .ok (.iinc 2 1, 3) := by decide +kernel
theorem dX1_find_114 : decode cX1_find 114 = .ok (.goto (-100), 3) := by decide +kernel
theorem dX1_find_117 : decode cX1_find 117 = .ok (.return_, 1) := by decide +kernel
theorem dX1_weightOf_0 : decode cX1_weightOf 0 = .ok (.aload_n 0, 1) := by decide +kernel
theorem dX1_weightOf_1 : decode cX1_weightOf 1 = .ok (.getfield 9, 3) := by decide +kernel
theorem dX1_weightOf_4 : decode cX1_weightOf 4 = .ok (.iload_n 1, 1) := by decide +kernel
theorem dX1_weightOf_5 : decode cX1_weightOf 5 = .ok (.iaload, 1) := by decide +kernel
theorem dX1_weightOf_6 : decode cX1_weightOf 6 = .ok (.ireturn, 1) := by decide +kernel
theorem dX1_heaviestWith_0 : decode cX1_heaviestWith 0 = .ok (.iload_n 1, 1) := by decide +kernel
theorem dX1_heaviestWith_1 : decode cX1_heaviestWith 1 = .ok (.istore_n 2, 1) := by decide +kernel
theorem dX1_heaviestWith_2 : decode cX1_heaviestWith 2 = .ok (.iconst 0, 1) := by decide +kernel
theorem dX1_heaviestWith_3 : decode cX1_heaviestWith 3 = .ok (.istore_n 3, 1) := by decide +kernel
theorem dX1_heaviestWith_4 : decode cX1_heaviestWith 4 = .ok (.iload_n 3, 1) := by decide +kernel
theorem dX1_heaviestWith_5 : decode cX1_heaviestWith 5 = .ok (.aload_n 0, 1) := by decide +kernel
theorem dX1_heaviestWith_6 : decode cX1_heaviestWith 6 = .ok (.getfield 15, 3) := by decide +kernel
theorem dX1_heaviestWith_9 : decode cX1_heaviestWith 9 = .ok (.if_icmp .ge 33, 3) := by decide +kernel
theorem dX1_heaviestWith_12 : decode cX1_heaviestWith 12 = .ok (.iload_n 3, 1) := by decide +kernel
theorem dX1_heaviestWith_13 : decode cX1_heaviestWith 13 = .ok (.iload_n 1, 1) := by decide +kernel
theorem dX1_heaviestWith_14 : decode cX1_heaviestWith 14 = .ok (.iand, 1) := by decide +kernel
theorem dX1_heaviestWith_15 : decode cX1_heaviestWith 15 = .ok (.iload_n 1, 1) := by decide +kernel
theorem dX1_heaviestWith_16 : decode cX1_heaviestWith 16 = .ok (.if_icmp .ne 20, 3) := by decide +kernel
theorem dX1_heaviestWith_19 : decode cX1_heaviestWith 19 = .ok (.aload_n 0, 1) := by decide +kernel
theorem dX1_heaviestWith_20 : decode cX1_heaviestWith 20 = .ok (.getfield 9, 3) := by decide +kernel
theorem dX1_heaviestWith_23 : decode cX1_heaviestWith 23 = .ok (.iload_n 3, 1) := by decide +kernel
theorem dX1_heaviestWith_24 : decode cX1_heaviestWith 24 = .ok (.iaload, 1) := by decide +kernel
theorem dX1_heaviestWith_25 : decode cX1_heaviestWith 25 = .ok (.aload_n 0, 1) := by decide +kernel
theorem dX1_heaviestWith_26 : decode cX1_heaviestWith 26 = .ok (.getfield 9, 3) := by decide +kernel
theorem dX1_heaviestWith_29 : decode cX1_heaviestWith 29 = .ok (.iload_n 2, 1) := by decide +kernel
theorem dX1_heaviestWith_30 : decode cX1_heaviestWith 30 = .ok (.iaload, 1) := by decide +kernel
theorem dX1_heaviestWith_31 : decode cX1_heaviestWith 31 = .ok (.if_icmp .le 5, 3) := by decide +kernel
theorem dX1_heaviestWith_34 : decode cX1_heaviestWith 34 = .ok (.iload_n 3, 1) := by decide +kernel
theorem dX1_heaviestWith_35 : decode cX1_heaviestWith 35 = .ok (.istore_n 2, 1) := by decide +kernel
theorem dX1_heaviestWith_36 : decode cX1_heaviestWith 36 = .ok (.iinc 3 1, 3) := by decide +kernel
theorem dX1_heaviestWith_39 : decode cX1_heaviestWith 39 = .ok (.goto (-35), 3) := by decide +kernel
theorem dX1_heaviestWith_42 : decode cX1_heaviestWith 42 = .ok (.iload_n 2, 1) := by decide +kernel
theorem dX1_heaviestWith_43 : decode cX1_heaviestWith 43 = .ok (.ireturn, 1) := by decide +kernel
theorem dX1_mostVertices_0 : decode cX1_mostVertices 0 = .ok (.iconst 0, 1) := by decide +kernel
theorem dX1_mostVertices_1 : decode cX1_mostVertices 1 = .ok (.istore_n 1, 1) := by decide +kernel
theorem dX1_mostVertices_2 : decode cX1_mostVertices 2 = .ok (.iconst 0, 1) := by decide +kernel
theorem dX1_mostVertices_3 : decode cX1_mostVertices 3 = .ok (.istore_n 2, 1) := by decide +kernel
theorem dX1_mostVertices_4 : decode cX1_mostVertices 4 = .ok (.iload_n 2, 1) := by decide +kernel
theorem dX1_mostVertices_5 : decode cX1_mostVertices 5 = .ok (.aload_n 0, 1) := by decide +kernel
theorem dX1_mostVertices_6 : decode cX1_mostVertices 6 = .ok (.getfield 15, 3) := by decide +kernel
theorem dX1_mostVertices_9 : decode cX1_mostVertices 9 = .ok (.if_icmp .ge 28, 3) := by decide +kernel
theorem dX1_mostVertices_12 : decode cX1_mostVertices 12 = .ok (.aload_n 0, 1) := by decide +kernel
theorem dX1_mostVertices_13 : decode cX1_mostVertices 13 = .ok (.getfield 9, 3) := by decide +kernel
theorem dX1_mostVertices_16 : decode cX1_mostVertices 16 = .ok (.iload_n 2, 1) := by decide +kernel
theorem dX1_mostVertices_17 : decode cX1_mostVertices 17 = .ok (.iaload, 1) := by decide +kernel
theorem dX1_mostVertices_18 : decode cX1_mostVertices 18 = .ok (.iconst (-1), 1) := by decide +kernel
theorem dX1_mostVertices_19 : decode cX1_mostVertices 19 = .ok (.if_icmp .eq 12, 3) := by decide +kernel
theorem dX1_mostVertices_22 : decode cX1_mostVertices 22 = .ok (.iload_n 1, 1) := by decide +kernel
theorem dX1_mostVertices_23 : decode cX1_mostVertices 23 = .ok (.iload_n 2, 1) := by decide +kernel
theorem dX1_mostVertices_24 : decode cX1_mostVertices 24 = .ok (.invokestatic 28, 3) := by decide +kernel
theorem dX1_mostVertices_27 : decode cX1_mostVertices 27 = .ok (.invokestatic 34, 3) := by decide +kernel
theorem dX1_mostVertices_30 : decode cX1_mostVertices 30 = .ok (.istore_n 1, 1) := by decide +kernel
theorem dX1_mostVertices_31 : decode cX1_mostVertices 31 = .ok (.iinc 2 1, 3) := by decide +kernel
theorem dX1_mostVertices_34 : decode cX1_mostVertices 34 = .ok (.goto (-30), 3) := by decide +kernel
theorem dX1_mostVertices_37 : decode cX1_mostVertices 37 = .ok (.iload_n 1, 1) := by decide +kernel
theorem dX1_mostVertices_38 : decode cX1_mostVertices 38 = .ok (.ireturn, 1) := by decide +kernel
theorem dX2_init_0 : decode cX2_init 0 = .ok (.aload_n 0, 1) := by decide +kernel
theorem dX2_init_1 : decode cX2_init 1 = .ok (.invokespecial 3, 3) := by decide +kernel
theorem dX2_init_4 : decode cX2_init 4 = .ok (.aload_n 0, 1) := by decide +kernel
theorem dX2_init_5 : decode cX2_init 5 = .ok (.bipush 8, 2) := by decide +kernel
theorem dX2_init_7 : decode cX2_init 7 = .ok (.newarray .int, 2) := by decide +kernel
theorem dX2_init_9 : decode cX2_init 9 = .ok (.putfield 9, 3) := by decide +kernel
theorem dX2_init_12 : decode cX2_init 12 = .ok (.aload_n 0, 1) := by decide +kernel
theorem dX2_init_13 : decode cX2_init 13 = .ok (.iconst 0, 1) := by decide +kernel
theorem dX2_init_14 : decode cX2_init 14 = .ok (.putfield 15, 3) := by decide +kernel
theorem dX2_init_17 : decode cX2_init 17 = .ok (.return_, 1) := by decide +kernel
theorem dX2_find_0 : decode cX2_find 0 = .ok (.iconst 1, 1) := by decide +kernel
theorem dX2_find_1 : decode cX2_find 1 = .ok (.istore_n 2, 1) := by decide +kernel
theorem dX2_find_2 : decode cX2_find 2 = .ok (.iload_n 2, 1) := by decide +kernel
theorem dX2_find_3 : decode cX2_find 3 = .ok (.aload_n 1, 1) := by decide +kernel
theorem dX2_find_4 : decode cX2_find 4 = .ok (.getfield 19, 3) := by decide +kernel
theorem dX2_find_7 : decode cX2_find 7 = .ok (.if_icmp .gt 29, 3) := by decide +kernel
theorem dX2_find_10 : decode cX2_find 10 = .ok (.aload_n 1, 1) := by decide +kernel
theorem dX2_find_11 : decode cX2_find 11 = .ok (.aload_n 0, 1) := by decide +kernel
theorem dX2_find_12 : decode cX2_find 12 = .ok (.getfield 9, 3) := by decide +kernel
theorem dX2_find_15 : decode cX2_find 15 = .ok (.iload_n 2, 1) := by decide +kernel
theorem dX2_find_16 : decode cX2_find 16 = .ok (.iconst 0, 1) := by decide +kernel
theorem dX2_find_17 : decode cX2_find 17 = .ok (.iconst 0, 1) := by decide +kernel
theorem dX2_find_18 : decode cX2_find 18 = .ok (.invokestatic 24, 3) := by decide +kernel
theorem dX2_find_21 : decode cX2_find 21 = .ok (.ifCond .eq 9, 3) := by decide +kernel
theorem dX2_find_24 : decode cX2_find 24 = .ok (.aload_n 0, 1) := by decide +kernel
theorem dX2_find_25 : decode cX2_find 25 = .ok (.iload_n 2, 1) := by decide +kernel
theorem dX2_find_26 : decode cX2_find 26 = .ok (.putfield 15, 3) := by decide +kernel
theorem dX2_find_29 : decode cX2_find 29 = .ok (.return_, 1) := by decide +kernel
theorem dX2_find_30 : decode cX2_find 30 = .ok (.iinc 2 1, 3) := by decide +kernel
theorem dX2_find_33 : decode cX2_find 33 = .ok (.goto (-31), 3) := by decide +kernel
theorem dX2_find_36 : decode cX2_find 36 = .ok (.return_, 1) := by decide +kernel
theorem dX2_paint_0 : decode cX2_paint 0 = .ok (.iload_n 3, 1) := by decide +kernel
theorem dX2_paint_1 : decode cX2_paint 1 = .ok (.aload_n 0, 1) := by decide +kernel
theorem dX2_paint_2 : decode cX2_paint 2 = .ok (.getfield 19, 3) := by decide +kernel
theorem dX2_paint_5 : decode cX2_paint 5 = .ok (.if_icmp .lt 5, 3) := by decide +kernel
theorem dX2_paint_8 : decode cX2_paint 8 = .ok (.iconst 1, 1) := by decide +kernel
theorem dX2_paint_9 : decode cX2_paint 9 = .ok (.ireturn, 1) := by decide +kernel
theorem dX2_paint_10 : decode cX2_paint 10 = .ok (.iconst 0, 1) := by decide +kernel
theorem dX2_paint_11 : decode cX2_paint 11 = .ok (.istore 5, 2) := by decide +kernel
theorem dX2_paint_13 : decode cX2_paint 13 = .ok (.iload 5, 2) := by decide +kernel
theorem dX2_paint_15 : decode cX2_paint 15 = .ok (.iload 4, 2) := by decide +kernel
theorem dX2_paint_17 : decode cX2_paint 17 = .ok (.if_icmp .gt 54, 3) := by decide +kernel
theorem dX2_paint_20 : decode cX2_paint 20 = .ok (.iload 5, 2) := by decide +kernel
theorem dX2_paint_22 : decode cX2_paint 22 = .ok (.iload_n 2, 1) := by decide +kernel
theorem dX2_paint_23 : decode cX2_paint 23 = .ok (.if_icmp .ge 48, 3) := by decide +kernel
theorem dX2_paint_26 : decode cX2_paint 26 = .ok (.aload_n 0, 1) := by decide +kernel
theorem dX2_paint_27 : decode cX2_paint 27 = .ok (.aload_n 1, 1) := by decide +kernel
theorem dX2_paint_28 : decode cX2_paint 28 = .ok (.iload_n 3, 1) := by decide +kernel
theorem dX2_paint_29 : decode cX2_paint 29 = .ok (.iload 5, 2) := by decide +kernel
theorem dX2_paint_31 : decode cX2_paint 31 = .ok (.invokestatic 28, 3) := by decide +kernel
theorem dX2_paint_34 : decode cX2_paint 34 = .ok (.ifCond .eq 31, 3) := by decide +kernel
theorem dX2_paint_37 : decode cX2_paint 37 = .ok (.aload_n 1, 1) := by decide +kernel
theorem dX2_paint_38 : decode cX2_paint 38 = .ok (.iload_n 3, 1) := by decide +kernel
theorem dX2_paint_39 : decode cX2_paint 39 = .ok (.iload 5, 2) := by decide +kernel
theorem dX2_paint_41 : decode cX2_paint 41 = .ok (.iastore, 1) := by decide +kernel
theorem dX2_paint_42 : decode cX2_paint 42 = .ok (.aload_n 0, 1) := by decide +kernel
theorem dX2_paint_43 : decode cX2_paint 43 = .ok (.aload_n 1, 1) := by decide +kernel
theorem dX2_paint_44 : decode cX2_paint 44 = .ok (.iload_n 2, 1) := by decide +kernel
theorem dX2_paint_45 : decode cX2_paint 45 = .ok (.iload_n 3, 1) := by decide +kernel
theorem dX2_paint_46 : decode cX2_paint 46 = .ok (.iconst 1, 1) := by decide +kernel
theorem dX2_paint_47 : decode cX2_paint 47 = .ok (.iadd, 1) := by decide +kernel
theorem dX2_paint_48 : decode cX2_paint 48 = .ok (.iload 4, 2) := by decide +kernel
theorem dX2_paint_50 : decode cX2_paint 50 = .ok (.iload 5, 2) := by decide +kernel
theorem dX2_paint_52 : decode cX2_paint 52 = .ok (.iconst 1, 1) := by decide +kernel
theorem dX2_paint_53 : decode cX2_paint 53 = .ok (.iadd, 1) := by decide +kernel
theorem dX2_paint_54 : decode cX2_paint 54 = .ok (.invokestatic 32, 3) := by decide +kernel
theorem dX2_paint_57 : decode cX2_paint 57 = .ok (.invokestatic 24, 3) := by decide +kernel
theorem dX2_paint_60 : decode cX2_paint 60 = .ok (.ifCond .eq 5, 3) := by decide +kernel
theorem dX2_paint_63 : decode cX2_paint 63 = .ok (.iconst 1, 1) := by decide +kernel
theorem dX2_paint_64 : decode cX2_paint 64 = .ok (.ireturn, 1) := by decide +kernel
theorem dX2_paint_65 : decode cX2_paint 65 = .ok (.iinc 5 1, 3) := by decide +kernel
theorem dX2_paint_68 : decode cX2_paint 68 = .ok (.goto (-55), 3) := by decide +kernel
theorem dX2_paint_71 : decode cX2_paint 71 = .ok (.iconst 0, 1) := by decide +kernel
theorem dX2_paint_72 : decode cX2_paint 72 = .ok (.ireturn, 1) := by decide +kernel
theorem dX2_isFree_0 : decode cX2_isFree 0 = .ok (.iconst 0, 1) := by decide +kernel
theorem dX2_isFree_1 : decode cX2_isFree 1 = .ok (.istore 4, 2) := by decide +kernel
theorem dX2_isFree_3 : decode cX2_isFree 3 = .ok (.iload 4, 2) := by decide +kernel
theorem dX2_isFree_5 : decode cX2_isFree 5 = .ok (.iload_n 2, 1) := by decide +kernel
theorem dX2_isFree_6 : decode cX2_isFree 6 = .ok (.if_icmp .ge 29, 3) := by decide +kernel
theorem dX2_isFree_9 : decode cX2_isFree 9 = .ok (.aload_n 1, 1) := by decide +kernel
theorem dX2_isFree_10 : decode cX2_isFree 10 = .ok (.iload 4, 2) := by decide +kernel
theorem dX2_isFree_12 : decode cX2_isFree 12 = .ok (.iaload, 1) := by decide +kernel
theorem dX2_isFree_13 : decode cX2_isFree 13 = .ok (.iload_n 3, 1) := by decide +kernel
theorem dX2_isFree_14 : decode cX2_isFree 14 = .ok (.if_icmp .ne 15, 3) := by decide +kernel
theorem dX2_isFree_17 : decode cX2_isFree 17 = .ok (.aload_n 0, 1) := by decide +kernel
theorem dX2_isFree_18 : decode cX2_isFree 18 = .ok (.iload 4, 2) := by decide +kernel
theorem dX2_isFree_20 : decode cX2_isFree 20 = .ok (.iload_n 2, 1) := by decide +kernel
theorem dX2_isFree_21 : decode cX2_isFree 21 = .ok (.invokevirtual 38, 3) := by decide +kernel
theorem dX2_isFree_24 : decode cX2_isFree 24 = .ok (.ifCond .eq 5, 3) := by decide +kernel
theorem dX2_isFree_27 : decode cX2_isFree 27 = .ok (.iconst 0, 1) := by decide +kernel
theorem dX2_isFree_28 : decode cX2_isFree 28 = .ok (.ireturn, 1) := by decide +kernel
theorem dX2_isFree_29 : decode cX2_isFree 29 = .ok (.iinc 4 1, 3) := by decide +kernel
theorem dX2_isFree_32 : decode cX2_isFree 32 = .ok (.goto (-29), 3) := by decide +kernel
theorem dX2_isFree_35 : decode cX2_isFree 35 = .ok (.iconst 1, 1) := by decide +kernel
theorem dX2_isFree_36 : decode cX2_isFree 36 = .ok (.ireturn, 1) := by decide +kernel
theorem dX3_init_0 : decode cX3_init 0 = .ok (.aload_n 0, 1) := by decide +kernel
theorem dX3_init_1 : decode cX3_init 1 = .ok (.invokespecial 3, 3) := by decide +kernel
theorem dX3_init_4 : decode cX3_init 4 = .ok (.aload_n 0, 1) := by decide +kernel
theorem dX3_init_5 : decode cX3_init 5 = .ok (.bipush 60, 2) := by decide +kernel
theorem dX3_init_7 : decode cX3_init 7 = .ok (.newarray .char, 2) := by decide +kernel
theorem dX3_init_9 : decode cX3_init 9 = .ok (.putfield 9, 3) := by decide +kernel
theorem dX3_init_12 : decode cX3_init 12 = .ok (.aload_n 0, 1) := by decide +kernel
theorem dX3_init_13 : decode cX3_init 13 = .ok (.iconst 0, 1) := by decide +kernel
theorem dX3_init_14 : decode cX3_init 14 = .ok (.putfield 15, 3) := by decide +kernel
theorem dX3_init_17 : decode cX3_init 17 = .ok (.return_, 1) := by decide +kernel
theorem dX3_firstFault_0 : decode cX3_firstFault 0 = .ok (.iconst 0, 1) := by decide +kernel
theorem dX3_firstFault_1 : decode cX3_firstFault 1 = .ok (.istore_n 2, 1) := by decide +kernel
theorem dX3_firstFault_2 : decode cX3_firstFault 2 = .ok (.iload_n 2, 1) := by decide +kernel
theorem dX3_firstFault_3 : decode cX3_firstFault 3 = .ok (.aload_n 0, 1) := by decide +kernel
theorem dX3_firstFault_4 : decode cX3_firstFault 4 = .ok (.getfield 15, 3) := by decide +kernel
theorem dX3_firstFault_7 : decode cX3_firstFault 7 = .ok (.if_icmp .ge 20, 3) := by decide +kernel
theorem dX3_firstFault_10 : decode cX3_firstFault 10 = .ok (.aload_n 0, 1) := by decide +kernel
theorem dX3_firstFault_11 : decode cX3_firstFault 11 = .ok (.iload_n 2, 1) := by decide +kernel
theorem dX3_firstFault_12 : decode cX3_firstFault 12 = .ok (.iload_n 1, 1) := by decide +kernel
theorem dX3_firstFault_13 : decode cX3_firstFault 13 = .ok (.invokevirtual 19, 3) := by decide +kernel
theorem dX3_firstFault_16 : decode cX3_firstFault 16 = .ok (.ifCond .ne 5, 3) := by decide +kernel
theorem dX3_firstFault_19 : decode cX3_firstFault 19 = .ok (.iload_n 2, 1) := by decide +kernel
theorem dX3_firstFault_20 : decode cX3_firstFault 20 = .ok (.ireturn, 1) := by decide +kernel
theorem dX3_firstFault_21 : decode cX3_firstFault 21 = .ok (.iinc 2 1, 3) := by decide +kernel
theorem dX3_firstFault_24 : decode cX3_firstFault 24 = .ok (.goto (-22), 3) := by decide +kernel
theorem dX3_firstFault_27 : decode cX3_firstFault 27 = .ok (.aload_n 0, 1) := by decide +kernel
theorem dX3_firstFault_28 : decode cX3_firstFault 28 = .ok (.getfield 15, 3) := by decide +kernel
theorem dX3_firstFault_31 : decode cX3_firstFault 31 = .ok (.ireturn, 1) := by decide +kernel
theorem dX3_goesOn_0 : decode cX3_goesOn 0 = .ok (.aload_n 0, 1) := by decide +kernel
theorem dX3_goesOn_1 : decode cX3_goesOn 1 = .ok (.getfield 9, 3) := by decide +kernel
theorem dX3_goesOn_4 : decode cX3_goesOn 4 = .ok (.iload_n 1, 1) := by decide +kernel
theorem dX3_goesOn_5 : decode cX3_goesOn 5 = .ok (.caload, 1) := by decide +kernel
theorem dX3_goesOn_6 : decode cX3_goesOn 6 = .ok (.istore_n 3, 1) := by decide +kernel
theorem dX3_goesOn_7 : decode cX3_goesOn 7 = .ok (.iload_n 1, 1) := by decide +kernel
theorem dX3_goesOn_8 : decode cX3_goesOn 8 = .ok (.iconst 3, 1) := by decide +kernel
theorem dX3_goesOn_9 : decode cX3_goesOn 9 = .ok (.irem, 1) := by decide +kernel
theorem dX3_goesOn_10 : decode cX3_goesOn 10 = .ok (.lookupswitch 74 #[(0, 26), (1, 48)], 26) := by decide +kernel
theorem dX3_goesOn_36 : decode cX3_goesOn 36 = .ok (.iload_n 3, 1) := by decide +kernel
theorem dX3_goesOn_37 : decode cX3_goesOn 37 = .ok (.bipush 48, 2) := by decide +kernel
theorem dX3_goesOn_39 : decode cX3_goesOn 39 = .ok (.if_icmp .lt 17, 3) := by decide +kernel
theorem dX3_goesOn_42 : decode cX3_goesOn 42 = .ok (.iload_n 3, 1) := by decide +kernel
theorem dX3_goesOn_43 : decode cX3_goesOn 43 = .ok (.bipush 48, 2) := by decide +kernel
theorem dX3_goesOn_45 : decode cX3_goesOn 45 = .ok (.iload_n 2, 1) := by decide +kernel
theorem dX3_goesOn_46 : decode cX3_goesOn 46 = .ok (.iadd, 1) := by decide +kernel
theorem dX3_goesOn_47 : decode cX3_goesOn 47 = .ok (.iconst 1, 1) := by decide +kernel
theorem dX3_goesOn_48 : decode cX3_goesOn 48 = .ok (.isub, 1) := by decide +kernel
theorem dX3_goesOn_49 : decode cX3_goesOn 49 = .ok (.if_icmp .ge 7, 3) := by decide +kernel
theorem dX3_goesOn_52 : decode cX3_goesOn 52 = .ok (.iconst 1, 1) := by decide +kernel
theorem dX3_goesOn_53 : decode cX3_goesOn 53 = .ok (.goto 4, 3) := by decide +kernel
theorem dX3_goesOn_56 : decode cX3_goesOn 56 = .ok (.iconst 0, 1) := by decide +kernel
theorem dX3_goesOn_57 : decode cX3_goesOn 57 = .ok (.ireturn, 1) := by decide +kernel
theorem dX3_goesOn_58 : decode cX3_goesOn 58 = .ok (.iload_n 3, 1) := by decide +kernel
theorem dX3_goesOn_59 : decode cX3_goesOn 59 = .ok (.aload_n 0, 1) := by decide +kernel
theorem dX3_goesOn_60 : decode cX3_goesOn 60 = .ok (.getfield 9, 3) := by decide +kernel
theorem dX3_goesOn_63 : decode cX3_goesOn 63 = .ok (.iload_n 1, 1) := by decide +kernel
theorem dX3_goesOn_64 : decode cX3_goesOn 64 = .ok (.iconst 1, 1) := by decide +kernel
theorem dX3_goesOn_65 : decode cX3_goesOn 65 = .ok (.isub, 1) := by decide +kernel
theorem dX3_goesOn_66 : decode cX3_goesOn 66 = .ok (.caload, 1) := by decide +kernel
theorem dX3_goesOn_67 : decode cX3_goesOn 67 = .ok (.if_icmp .le 15, 3) := by decide +kernel
theorem dX3_goesOn_70 : decode cX3_goesOn 70 = .ok (.iload_n 3, 1) := by decide +kernel
theorem dX3_goesOn_71 : decode cX3_goesOn 71 = .ok (.bipush 48, 2) := by decide +kernel
theorem dX3_goesOn_73 : decode cX3_goesOn 73 = .ok (.iload_n 2, 1) := by decide +kernel
theorem dX3_goesOn_74 : decode cX3_goesOn 74 = .ok (.iadd, 1) := by decide +kernel
theorem dX3_goesOn_75 : decode cX3_goesOn 75 = .ok (.if_icmp .ge 7, 3) := by decide +kernel
theorem dX3_goesOn_78 : decode cX3_goesOn 78 = .ok (.iconst 1, 1) := by decide +kernel
theorem dX3_goesOn_79 : decode cX3_goesOn 79 = .ok (.goto 4, 3) := by decide +kernel
theorem dX3_goesOn_82 : decode cX3_goesOn 82 = .ok (.iconst 0, 1) := by decide +kernel
theorem dX3_goesOn_83 : decode cX3_goesOn 83 = .ok (.ireturn, 1) := by decide +kernel
theorem dX3_goesOn_84 : decode cX3_goesOn 84 = .ok (.iload_n 3, 1) := by decide +kernel
theorem dX3_goesOn_85 : decode cX3_goesOn 85 = .ok (.bipush 44, 2) := by decide +kernel
theorem dX3_goesOn_87 : decode cX3_goesOn 87 = .ok (.if_icmp .ne 7, 3) := by decide +kernel
theorem dX3_goesOn_90 : decode cX3_goesOn 90 = .ok (.iconst 1, 1) := by decide +kernel
theorem dX3_goesOn_91 : decode cX3_goesOn 91 = .ok (.goto 4, 3) := by decide +kernel
theorem dX3_goesOn_94 : decode cX3_goesOn 94 = .ok (.iconst 0, 1) := by decide +kernel
theorem dX3_goesOn_95 : decode cX3_goesOn 95 = .ok (.ireturn, 1) := by decide +kernel
theorem dX3_isWhole_0 : decode cX3_isWhole 0 = .ok (.aload_n 0, 1) := by decide +kernel
theorem dX3_isWhole_1 : decode cX3_isWhole 1 = .ok (.getfield 15, 3) := by decide +kernel
theorem dX3_isWhole_4 : decode cX3_isWhole 4 = .ok (.iconst 3, 1) := by decide +kernel
theorem dX3_isWhole_5 : decode cX3_isWhole 5 = .ok (.irem, 1) := by decide +kernel
theorem dX3_isWhole_6 : decode cX3_isWhole 6 = .ok (.iconst 2, 1) := by decide +kernel
theorem dX3_isWhole_7 : decode cX3_isWhole 7 = .ok (.if_icmp .ne 19, 3) := by decide +kernel
theorem dX3_isWhole_10 : decode cX3_isWhole 10 = .ok (.aload_n 0, 1) := by decide +kernel
theorem dX3_isWhole_11 : decode cX3_isWhole 11 = .ok (.iload_n 1, 1) := by decide +kernel
theorem dX3_isWhole_12 : decode cX3_isWhole 12 = .ok (.invokevirtual 23, 3) := by decide +kernel
theorem dX3_isWhole_15 : decode cX3_isWhole 15 = .ok (.aload_n 0, 1) := by decide +kernel
theorem dX3_isWhole_16 : decode cX3_isWhole 16 = .ok (.getfield 15, 3) := by decide +kernel
theorem dX3_isWhole_19 : decode cX3_isWhole 19 = .ok (.if_icmp .ne 7, 3) := by decide +kernel
theorem dX3_isWhole_22 : decode cX3_isWhole 22 = .ok (.iconst 1, 1) := by decide +kernel
theorem dX3_isWhole_23 : decode cX3_isWhole 23 = .ok (.goto 4, 3) := by decide +kernel
theorem dX3_isWhole_26 : decode cX3_isWhole 26 = .ok (.iconst 0, 1) := by decide +kernel
theorem dX3_isWhole_27 : decode cX3_isWhole 27 = .ok (.ireturn, 1) := by decide +kernel
theorem dX3_joinAll_0 : decode cX3_joinAll 0 = .ok (.iconst 0, 1) := by decide +kernel
theorem dX3_joinAll_1 : decode cX3_joinAll 1 = .ok (.istore_n 2, 1) := by decide +kernel
theorem dX3_joinAll_2 : decode cX3_joinAll 2 = .ok (.iload_n 2, 1) := by decide +kernel
theorem dX3_joinAll_3 : decode cX3_joinAll 3 = .ok (.iconst 1, 1) := by decide +kernel
theorem dX3_joinAll_4 : decode cX3_joinAll 4 = .ok (.iadd, 1) := by decide +kernel
theorem dX3_joinAll_5 : decode cX3_joinAll 5 = .ok (.aload_n 0, 1) := by decide +kernel
theorem dX3_joinAll_6 : decode cX3_joinAll 6 = .ok (.getfield 15, 3) := by decide +kernel
theorem dX3_joinAll_9 : decode cX3_joinAll 9 = .ok (.if_icmp .ge 34, 3) := by decide +kernel
theorem dX3_joinAll_12 : decode cX3_joinAll 12 = .ok (.aload_n 1, 1) := by decide +kernel
theorem dX3_joinAll_13 : decode cX3_joinAll 13 = .ok (.aload_n 0, 1) := by decide +kernel
theorem dX3_joinAll_14 : decode cX3_joinAll 14 = .ok (.getfield 9, 3) := by decide +kernel
theorem dX3_joinAll_17 : decode cX3_joinAll 17 = .ok (.iload_n 2, 1) := by decide +kernel
theorem dX3_joinAll_18 : decode cX3_joinAll 18 = .ok (.caload, 1) := by decide +kernel
theorem dX3_joinAll_19 : decode cX3_joinAll 19 = .ok (.bipush 48, 2) := by decide +kernel
theorem dX3_joinAll_21 : decode cX3_joinAll 21 = .ok (.isub, 1) := by decide +kernel
theorem dX3_joinAll_22 : decode cX3_joinAll 22 = .ok (.aload_n 0, 1) := by decide +kernel
theorem dX3_joinAll_23 : decode cX3_joinAll 23 = .ok (.getfield 9, 3) := by decide +kernel
theorem dX3_joinAll_26 : decode cX3_joinAll 26 = .ok (.iload_n 2, 1) := by decide +kernel
theorem dX3_joinAll_27 : decode cX3_joinAll 27 = .ok (.iconst 1, 1) := by decide +kernel
theorem dX3_joinAll_28 : decode cX3_joinAll 28 = .ok (.iadd, 1) := by decide +kernel
theorem dX3_joinAll_29 : decode cX3_joinAll 29 = .ok (.caload, 1) := by decide +kernel
theorem dX3_joinAll_30 : decode cX3_joinAll 30 = .ok (.bipush 48, 2) := by decide +kernel
theorem dX3_joinAll_32 : decode cX3_joinAll 32 = .ok (.isub, 1) := by decide +kernel
theorem dX3_joinAll_33 : decode cX3_joinAll 33 = .ok (.iconst 1, 1) := by decide +kernel
theorem dX3_joinAll_34 : decode cX3_joinAll 34 = .ok (.invokevirtual 27, 3) := by decide +kernel
theorem dX3_joinAll_37 : decode cX3_joinAll 37 = .ok (.iinc 2 3, 3) := by decide +kernel
theorem dX3_joinAll_40 : decode cX3_joinAll 40 = .ok (.goto (-38), 3) := by decide +kernel
theorem dX3_joinAll_43 : decode cX3_joinAll 43 = .ok (.return_, 1) := by decide +kernel
theorem dX4_init_0 : decode cX4_init 0 = .ok (.aload_n 0, 1) := by decide +kernel
theorem dX4_init_1 : decode cX4_init 1 = .ok (.invokespecial 3, 3) := by decide +kernel
theorem dX4_init_4 : decode cX4_init 4 = .ok (.aload_n 0, 1) := by decide +kernel
theorem dX4_init_5 : decode cX4_init 5 = .ok (.iconst 4, 1) := by decide +kernel
theorem dX4_init_6 : decode cX4_init 6 = .ok (.putfield 9, 3) := by decide +kernel
theorem dX4_init_9 : decode cX4_init 9 = .ok (.aload_n 0, 1) := by decide +kernel
theorem dX4_init_10 : decode cX4_init 10 = .ok (.iconst 3, 1) := by decide +kernel
theorem dX4_init_11 : decode cX4_init 11 = .ok (.putfield 15, 3) := by decide +kernel
theorem dX4_init_14 : decode cX4_init 14 = .ok (.aload_n 0, 1) := by decide +kernel
theorem dX4_init_15 : decode cX4_init 15 = .ok (.bipush 8, 2) := by decide +kernel
theorem dX4_init_17 : decode cX4_init 17 = .ok (.newarray .int, 2) := by decide +kernel
theorem dX4_init_19 : decode cX4_init 19 = .ok (.putfield 18, 3) := by decide +kernel
theorem dX4_init_22 : decode cX4_init 22 = .ok (.aload_n 0, 1) := by decide +kernel
theorem dX4_init_23 : decode cX4_init 23 = .ok (.bipush 8, 2) := by decide +kernel
theorem dX4_init_25 : decode cX4_init 25 = .ok (.newarray .int, 2) := by decide +kernel
theorem dX4_init_27 : decode cX4_init 27 = .ok (.putfield 22, 3) := by decide +kernel
theorem dX4_init_30 : decode cX4_init 30 = .ok (.aload_n 0, 1) := by decide +kernel
theorem dX4_init_31 : decode cX4_init 31 = .ok (.bipush 8, 2) := by decide +kernel
theorem dX4_init_33 : decode cX4_init 33 = .ok (.iconst 4, 1) := by decide +kernel
theorem dX4_init_34 : decode cX4_init 34 = .ok (.multianewarray 25 2, 4) := by decide +kernel
theorem dX4_init_38 : decode cX4_init 38 = .ok (.putfield 27, 3) := by decide +kernel
theorem dX4_init_41 : decode cX4_init 41 = .ok (.aload_n 0, 1) := by decide +kernel
theorem dX4_init_42 : decode cX4_init 42 = .ok (.iconst 4, 1) := by decide +kernel
theorem dX4_init_43 : decode cX4_init 43 = .ok (.newarray .int, 2) := by decide +kernel
theorem dX4_init_45 : decode cX4_init 45 = .ok (.putfield 30, 3) := by decide +kernel
theorem dX4_init_48 : decode cX4_init 48 = .ok (.aload_n 0, 1) := by decide +kernel
theorem dX4_init_49 : decode cX4_init 49 = .ok (.getfield 22, 3) := by decide +kernel
theorem dX4_init_52 : decode cX4_init 52 = .ok (.iconst 1, 1) := by decide +kernel
theorem dX4_init_53 : decode cX4_init 53 = .ok (.invokestatic 33, 3) := by decide +kernel
theorem dX4_init_56 : decode cX4_init 56 = .ok (.return_, 1) := by decide +kernel
theorem dX4_clear_0 : decode cX4_clear 0 = .ok (.aload_n 0, 1) := by decide +kernel
theorem dX4_clear_1 : decode cX4_clear 1 = .ok (.iload_n 1, 1) := by decide +kernel
theorem dX4_clear_2 : decode cX4_clear 2 = .ok (.putfield 9, 3) := by decide +kernel
theorem dX4_clear_5 : decode cX4_clear 5 = .ok (.aload_n 0, 1) := by decide +kernel
theorem dX4_clear_6 : decode cX4_clear 6 = .ok (.iload_n 2, 1) := by decide +kernel
theorem dX4_clear_7 : decode cX4_clear 7 = .ok (.putfield 15, 3) := by decide +kernel
theorem dX4_clear_10 : decode cX4_clear 10 = .ok (.aload_n 0, 1) := by decide +kernel
theorem dX4_clear_11 : decode cX4_clear 11 = .ok (.getfield 18, 3) := by decide +kernel
theorem dX4_clear_14 : decode cX4_clear 14 = .ok (.iconst 0, 1) := by decide +kernel
theorem dX4_clear_15 : decode cX4_clear 15 = .ok (.invokestatic 33, 3) := by decide +kernel
theorem dX4_clear_18 : decode cX4_clear 18 = .ok (.aload_n 0, 1) := by decide +kernel
theorem dX4_clear_19 : decode cX4_clear 19 = .ok (.getfield 22, 3) := by decide +kernel
theorem dX4_clear_22 : decode cX4_clear 22 = .ok (.iconst 1, 1) := by decide +kernel
theorem dX4_clear_23 : decode cX4_clear 23 = .ok (.invokestatic 33, 3) := by decide +kernel
theorem dX4_clear_26 : decode cX4_clear 26 = .ok (.iconst 0, 1) := by decide +kernel
theorem dX4_clear_27 : decode cX4_clear 27 = .ok (.istore_n 3, 1) := by decide +kernel
theorem dX4_clear_28 : decode cX4_clear 28 = .ok (.iload_n 3, 1) := by decide +kernel
theorem dX4_clear_29 : decode cX4_clear 29 = .ok (.bipush 8, 2) := by decide +kernel
theorem dX4_clear_31 : decode cX4_clear 31 = .ok (.if_icmp .ge 19, 3) := by decide +kernel
theorem dX4_clear_34 : decode cX4_clear 34 = .ok (.aload_n 0, 1) := by decide +kernel
theorem dX4_clear_35 : decode cX4_clear 35 = .ok (.getfield 27, 3) := by decide +kernel
theorem dX4_clear_38 : decode cX4_clear 38 = .ok (.iload_n 3, 1) := by decide +kernel
theorem dX4_clear_39 : decode cX4_clear 39 = .ok (.aaload, 1) := by decide +kernel
theorem dX4_clear_40 : decode cX4_clear 40 = .ok (.iconst 0, 1) := by decide +kernel
theorem dX4_clear_41 : decode cX4_clear 41 = .ok (.invokestatic 33, 3) := by decide +kernel
theorem dX4_clear_44 : decode cX4_clear 44 = .ok (.iinc 3 1, 3) := by decide +kernel
theorem dX4_clear_47 : decode cX4_clear 47 = .ok (.goto (-19), 3) := by decide +kernel
theorem dX4_clear_50 : decode cX4_clear 50 = .ok (.aload_n 0, 1) := by decide +kernel
theorem dX4_clear_51 : decode cX4_clear 51 = .ok (.getfield 30, 3) := by decide +kernel
theorem dX4_clear_54 : decode cX4_clear 54 = .ok (.iconst 0, 1) := by decide +kernel
theorem dX4_clear_55 : decode cX4_clear 55 = .ok (.invokestatic 33, 3) := by decide +kernel
theorem dX4_clear_58 : decode cX4_clear 58 = .ok (.return_, 1) := by decide +kernel
theorem dX4_copyFrom_0 : decode cX4_copyFrom 0 = .ok (.aload_n 0, 1) := by decide +kernel
theorem dX4_copyFrom_1 : decode cX4_copyFrom 1 = .ok (.aload_n 1, 1) := by decide +kernel
theorem dX4_copyFrom_2 : decode cX4_copyFrom 2 = .ok (.getfield 9, 3) := by decide +kernel
theorem dX4_copyFrom_5 : decode cX4_copyFrom 5 = .ok (.putfield 9, 3) := by decide +kernel
theorem dX4_copyFrom_8 : decode cX4_copyFrom 8 = .ok (.aload_n 0, 1) := by decide +kernel
theorem dX4_copyFrom_9 : decode cX4_copyFrom 9 = .ok (.aload_n 1, 1) := by decide +kernel
theorem dX4_copyFrom_10 : decode cX4_copyFrom 10 = .ok (.getfield 15, 3) := by decide +kernel
theorem dX4_copyFrom_13 : decode cX4_copyFrom 13 = .ok (.putfield 15, 3) := by decide +kernel
theorem dX4_copyFrom_16 : decode cX4_copyFrom 16 = .ok (.aload_n 1, 1) := by decide +kernel
theorem dX4_copyFrom_17 : decode cX4_copyFrom 17 = .ok (.getfield 18, 3) := by decide +kernel
theorem dX4_copyFrom_20 : decode cX4_copyFrom 20 = .ok (.iconst 0, 1) := by decide +kernel
theorem dX4_copyFrom_21 : decode cX4_copyFrom 21 = .ok (.aload_n 0, 1) := by decide +kernel
theorem dX4_copyFrom_22 : decode cX4_copyFrom 22 = .ok (.getfield 18, 3) := by decide +kernel
theorem dX4_copyFrom_25 : decode cX4_copyFrom 25 = .ok (.iconst 0, 1) := by decide +kernel
theorem dX4_copyFrom_26 : decode cX4_copyFrom 26 = .ok (.bipush 8, 2) := by decide +kernel
theorem dX4_copyFrom_28 : decode cX4_copyFrom 28 = .ok (.invokestatic 39, 3) := by decide +kernel
theorem dX4_copyFrom_31 : decode cX4_copyFrom 31 = .ok (.aload_n 1, 1) := by decide +kernel
theorem dX4_copyFrom_32 : decode cX4_copyFrom 32 = .ok (.getfield 22, 3) := by decide +kernel
theorem dX4_copyFrom_35 : decode cX4_copyFrom 35 = .ok (.iconst 0, 1) := by decide +kernel
theorem dX4_copyFrom_36 : decode cX4_copyFrom 36 = .ok (.aload_n 0, 1) := by decide +kernel
theorem dX4_copyFrom_37 : decode cX4_copyFrom 37 = .ok (.getfield 22, 3) := by decide +kernel
theorem dX4_copyFrom_40 : decode cX4_copyFrom 40 = .ok (.iconst 0, 1) := by decide +kernel
theorem dX4_copyFrom_41 : decode cX4_copyFrom 41 = .ok (.bipush 8, 2) := by decide +kernel
theorem dX4_copyFrom_43 : decode cX4_copyFrom 43 = .ok (.invokestatic 39, 3) := by decide +kernel
theorem dX4_copyFrom_46 : decode cX4_copyFrom 46 = .ok (.iconst 0, 1) := by decide +kernel
theorem dX4_copyFrom_47 : decode cX4_copyFrom 47 = .ok (.istore_n 2, 1) := by decide +kernel
theorem dX4_copyFrom_48 : decode cX4_copyFrom 48 = .ok (.iload_n 2, 1) := by decide +kernel
theorem dX4_copyFrom_49 : decode cX4_copyFrom 49 = .ok (.bipush 8, 2) := by decide +kernel
theorem dX4_copyFrom_51 : decode cX4_copyFrom 51 = .ok (.if_icmp .ge 27, 3) := by decide +kernel
theorem dX4_copyFrom_54 : decode cX4_copyFrom 54 = .ok (.aload_n 1, 1) := by decide +kernel
theorem dX4_copyFrom_55 : decode cX4_copyFrom 55 = .ok (.getfield 27, 3) := by decide +kernel
theorem dX4_copyFrom_58 : decode cX4_copyFrom 58 = .ok (.iload_n 2, 1) := by decide +kernel
theorem dX4_copyFrom_59 : decode cX4_copyFrom 59 = .ok (.aaload, 1) := by decide +kernel
theorem dX4_copyFrom_60 : decode cX4_copyFrom 60 = .ok (.iconst 0, 1) := by decide +kernel
theorem dX4_copyFrom_61 : decode cX4_copyFrom 61 = .ok (.aload_n 0, 1) := by decide +kernel
theorem dX4_copyFrom_62 : decode cX4_copyFrom 62 = .ok (.getfield 27, 3) := by decide +kernel
theorem dX4_copyFrom_65 : decode cX4_copyFrom 65 = .ok (.iload_n 2, 1) := by decide +kernel
theorem dX4_copyFrom_66 : decode cX4_copyFrom 66 = .ok (.aaload, 1) := by decide +kernel
theorem dX4_copyFrom_67 : decode cX4_copyFrom 67 = .ok (.iconst 0, 1) := by decide +kernel
theorem dX4_copyFrom_68 : decode cX4_copyFrom 68 = .ok (.iconst 4, 1) := by decide +kernel
theorem dX4_copyFrom_69 : decode cX4_copyFrom 69 = .ok (.invokestatic 39, 3) := by decide +kernel
theorem dX4_copyFrom_72 : decode cX4_copyFrom 72 = .ok (.iinc 2 1, 3) := by decide +kernel
theorem dX4_copyFrom_75 : decode cX4_copyFrom 75 = .ok (.goto (-27), 3) := by decide +kernel
theorem dX4_copyFrom_78 : decode cX4_copyFrom 78 = .ok (.aload_n 1, 1) := by decide +kernel
theorem dX4_copyFrom_79 : decode cX4_copyFrom 79 = .ok (.getfield 30, 3) := by decide +kernel
theorem dX4_copyFrom_82 : decode cX4_copyFrom 82 = .ok (.iconst 0, 1) := by decide +kernel
theorem dX4_copyFrom_83 : decode cX4_copyFrom 83 = .ok (.aload_n 0, 1) := by decide +kernel
theorem dX4_copyFrom_84 : decode cX4_copyFrom 84 = .ok (.getfield 30, 3) := by decide +kernel
theorem dX4_copyFrom_87 : decode cX4_copyFrom 87 = .ok (.iconst 0, 1) := by decide +kernel
theorem dX4_copyFrom_88 : decode cX4_copyFrom 88 = .ok (.iconst 4, 1) := by decide +kernel
theorem dX4_copyFrom_89 : decode cX4_copyFrom 89 = .ok (.invokestatic 39, 3) := by decide +kernel
theorem dX4_copyFrom_92 : decode cX4_copyFrom 92 = .ok (.return_, 1) := by decide +kernel
theorem dX4_areJoined_0 : decode cX4_areJoined 0 = .ok (.aload_n 0, 1) := by decide +kernel
theorem dX4_areJoined_1 : decode cX4_areJoined 1 = .ok (.getfield 18, 3) := by decide +kernel
theorem dX4_areJoined_4 : decode cX4_areJoined 4 = .ok (.iload_n 1, 1) := by decide +kernel
theorem dX4_areJoined_5 : decode cX4_areJoined 5 = .ok (.iaload, 1) := by decide +kernel
theorem dX4_areJoined_6 : decode cX4_areJoined 6 = .ok (.iconst 1, 1) := by decide +kernel
theorem dX4_areJoined_7 : decode cX4_areJoined 7 = .ok (.iload_n 2, 1) := by decide +kernel
theorem dX4_areJoined_8 : decode cX4_areJoined 8 = .ok (.ishl, 1) := by decide +kernel
theorem dX4_areJoined_9 : decode cX4_areJoined 9 = .ok (.iand, 1) := by decide +kernel
theorem dX4_areJoined_10 : decode cX4_areJoined 10 = .ok (.ifCond .eq 7, 3) := by decide +kernel
theorem dX4_areJoined_13 : decode cX4_areJoined 13 = .ok (.iconst 1, 1) := by decide +kernel
theorem dX4_areJoined_14 : decode cX4_areJoined 14 = .ok (.goto 4, 3) := by decide +kernel
theorem dX4_areJoined_17 : decode cX4_areJoined 17 = .ok (.iconst 0, 1) := by decide +kernel
theorem dX4_areJoined_18 : decode cX4_areJoined 18 = .ok (.ireturn, 1) := by decide +kernel
theorem dX4_connect_0 : decode cX4_connect 0 = .ok (.iload_n 3, 1) := by decide +kernel
theorem dX4_connect_1 : decode cX4_connect 1 = .ok (.ifCond .eq 30, 3) := by decide +kernel
theorem dX4_connect_4 : decode cX4_connect 4 = .ok (.aload_n 0, 1) := by decide +kernel
theorem dX4_connect_5 : decode cX4_connect 5 = .ok (.getfield 18, 3) := by decide +kernel
theorem dX4_connect_8 : decode cX4_connect 8 = .ok (.iload_n 1, 1) := by decide +kernel
theorem dX4_connect_9 : decode cX4_connect 9 = .ok (.dup2, 1) := by decide +kernel
theorem dX4_connect_10 : decode cX4_connect 10 = .ok (.iaload, 1) := by decide +kernel
theorem dX4_connect_11 : decode cX4_connect 11 = .ok (.iconst 1, 1) := by decide +kernel
theorem dX4_connect_12 : decode cX4_connect 12 = .ok (.iload_n 2, 1) := by decide +kernel
theorem dX4_connect_13 : decode cX4_connect 13 = .ok (.ishl, 1) := by decide +kernel
theorem dX4_connect_14 : decode cX4_connect 14 = .ok (.ior, 1) := by decide +kernel
theorem dX4_connect_15 : decode cX4_connect 15 = .ok (.iastore, 1) := by decide +kernel
theorem dX4_connect_16 : decode cX4_connect 16 = .ok (.aload_n 0, 1) := by decide +kernel
theorem dX4_connect_17 : decode cX4_connect 17 = .ok (.getfield 18, 3) := by decide +kernel
theorem dX4_connect_20 : decode cX4_connect 20 = .ok (.iload_n 2, 1) := by decide +kernel
theorem dX4_connect_21 : decode cX4_connect 21 = .ok (.dup2, 1) := by decide +kernel
theorem dX4_connect_22 : decode cX4_connect 22 = .ok (.iaload, 1) := by decide +kernel
theorem dX4_connect_23 : decode cX4_connect 23 = .ok (.iconst 1, 1) := by decide +kernel
theorem dX4_connect_24 : decode cX4_connect 24 = .ok (.iload_n 1, 1) := by decide +kernel
theorem dX4_connect_25 : decode cX4_connect 25 = .ok (.ishl, 1) := by decide +kernel
theorem dX4_connect_26 : decode cX4_connect 26 = .ok (.ior, 1) := by decide +kernel
theorem dX4_connect_27 : decode cX4_connect 27 = .ok (.iastore, 1) := by decide +kernel
theorem dX4_connect_28 : decode cX4_connect 28 = .ok (.goto 31, 3) := by decide +kernel
theorem dX4_connect_31 : decode cX4_connect 31 = .ok (.aload_n 0, 1) := by decide +kernel
theorem dX4_connect_32 : decode cX4_connect 32 = .ok (.getfield 18, 3) := by decide +kernel
theorem dX4_connect_35 : decode cX4_connect 35 = .ok (.iload_n 1, 1) := by decide +kernel
theorem dX4_connect_36 : decode cX4_connect 36 = .ok (.dup2, 1) := by decide +kernel
theorem dX4_connect_37 : decode cX4_connect 37 = .ok (.iaload, 1) := by decide +kernel
theorem dX4_connect_38 : decode cX4_connect 38 = .ok (.iconst 1, 1) := by decide +kernel
theorem dX4_connect_39 : decode cX4_connect 39 = .ok (.iload_n 2, 1) := by decide +kernel
theorem dX4_connect_40 : decode cX4_connect 40 = .ok (.ishl, 1) := by decide +kernel
theorem dX4_connect_41 : decode cX4_connect 41 = .ok (.iconst (-1), 1) := by decide +kernel
theorem dX4_connect_42 : decode cX4_connect 42 = .ok (.ixor, 1) := by decide +kernel
theorem dX4_connect_43 : decode cX4_connect 43 = .ok (.iand, 1) := by decide +kernel
theorem dX4_connect_44 : decode cX4_connect 44 = .ok (.iastore, 1) := by decide +kernel
theorem dX4_connect_45 : decode cX4_connect 45 = .ok (.aload_n 0, 1) := by decide +kernel
theorem dX4_connect_46 : decode cX4_connect 46 = .ok (.getfield 18, 3) := by decide +kernel
theorem dX4_connect_49 : decode cX4_connect 49 = .ok (.iload_n 2, 1) := by decide +kernel
theorem dX4_connect_50 : decode cX4_connect 50 = .ok (.dup2, 1) := by decide +kernel
theorem dX4_connect_51 : decode cX4_connect 51 = .ok (.iaload, 1) := by decide +kernel
theorem dX4_connect_52 : decode cX4_connect 52 = .ok (.iconst 1, 1) := by decide +kernel
theorem dX4_connect_53 : decode cX4_connect 53 = .ok (.iload_n 1, 1) := by decide +kernel
theorem dX4_connect_54 : decode cX4_connect 54 = .ok (.ishl, 1) := by decide +kernel
theorem dX4_connect_55 : decode cX4_connect 55 = .ok (.iconst (-1), 1) := by decide +kernel
theorem dX4_connect_56 : decode cX4_connect 56 = .ok (.ixor, 1) := by decide +kernel
theorem dX4_connect_57 : decode cX4_connect 57 = .ok (.iand, 1) := by decide +kernel
theorem dX4_connect_58 : decode cX4_connect 58 = .ok (.iastore, 1) := by decide +kernel
theorem dX4_connect_59 : decode cX4_connect 59 = .ok (.return_, 1) := by decide +kernel
theorem dX4_edges_0 : decode cX4_edges 0 = .ok (.iconst 0, 1) := by decide +kernel
theorem dX4_edges_1 : decode cX4_edges 1 = .ok (.istore_n 1, 1) := by decide +kernel
theorem dX4_edges_2 : decode cX4_edges 2 = .ok (.iconst 0, 1) := by decide +kernel
theorem dX4_edges_3 : decode cX4_edges 3 = .ok (.istore_n 2, 1) := by decide +kernel
theorem dX4_edges_4 : decode cX4_edges 4 = .ok (.iload_n 2, 1) := by decide +kernel
theorem dX4_edges_5 : decode cX4_edges 5 = .ok (.aload_n 0, 1) := by decide +kernel
theorem dX4_edges_6 : decode cX4_edges 6 = .ok (.getfield 9, 3) := by decide +kernel
theorem dX4_edges_9 : decode cX4_edges 9 = .ok (.if_icmp .ge 21, 3) := by decide +kernel
theorem dX4_edges_12 : decode cX4_edges 12 = .ok (.iload_n 1, 1) := by decide +kernel
theorem dX4_edges_13 : decode cX4_edges 13 = .ok (.aload_n 0, 1) := by decide +kernel
theorem dX4_edges_14 : decode cX4_edges 14 = .ok (.getfield 18, 3) := by decide +kernel
theorem dX4_edges_17 : decode cX4_edges 17 = .ok (.iload_n 2, 1) := by decide +kernel
theorem dX4_edges_18 : decode cX4_edges 18 = .ok (.iaload, 1) := by decide +kernel
theorem dX4_edges_19 : decode cX4_edges 19 = .ok (.invokestatic 45, 3) := by decide +kernel
theorem dX4_edges_22 : decode cX4_edges 22 = .ok (.iadd, 1) := by decide +kernel
theorem dX4_edges_23 : decode cX4_edges 23 = .ok (.istore_n 1, 1) := by decide +kernel
theorem dX4_edges_24 : decode cX4_edges 24 = .ok (.iinc 2 1, 3) := by decide +kernel
theorem dX4_edges_27 : decode cX4_edges 27 = .ok (.goto (-23), 3) := by decide +kernel
theorem dX4_edges_30 : decode cX4_edges 30 = .ok (.iload_n 1, 1) := by decide +kernel
theorem dX4_edges_31 : decode cX4_edges 31 = .ok (.iconst 2, 1) := by decide +kernel
theorem dX4_edges_32 : decode cX4_edges 32 = .ok (.idiv, 1) := by decide +kernel
theorem dX4_edges_33 : decode cX4_edges 33 = .ok (.ireturn, 1) := by decide +kernel
theorem dX4_flipEdges_0 : decode cX4_flipEdges 0 = .ok (.iconst 1, 1) := by decide +kernel
theorem dX4_flipEdges_1 : decode cX4_flipEdges 1 = .ok (.aload_n 0, 1) := by decide +kernel
theorem dX4_flipEdges_2 : decode cX4_flipEdges 2 = .ok (.getfield 9, 3) := by decide +kernel
theorem dX4_flipEdges_5 : decode cX4_flipEdges 5 = .ok (.ishl, 1) := by decide +kernel
theorem dX4_flipEdges_6 : decode cX4_flipEdges 6 = .ok (.iconst 1, 1) := by decide +kernel
theorem dX4_flipEdges_7 : decode cX4_flipEdges 7 = .ok (.isub, 1) := by decide +kernel
theorem dX4_flipEdges_8 : decode cX4_flipEdges 8 = .ok (.istore_n 1, 1) := by decide +kernel
theorem dX4_flipEdges_9 : decode cX4_flipEdges 9 = .ok (.iconst 0, 1) := by decide +kernel
theorem dX4_flipEdges_10 : decode cX4_flipEdges 10 = .ok (.istore_n 2, 1) := by decide +kernel
theorem dX4_flipEdges_11 : decode cX4_flipEdges 11 = .ok (.iload_n 2, 1) := by decide +kernel
theorem dX4_flipEdges_12 : decode cX4_flipEdges 12 = .ok (.aload_n 0, 1) := by decide +kernel
theorem dX4_flipEdges_13 : decode cX4_flipEdges 13 = .ok (.getfield 9, 3) := by decide +kernel
theorem dX4_flipEdges_16 : decode cX4_flipEdges 16 = .ok (.if_icmp .ge 31, 3) := by decide +kernel
theorem dX4_flipEdges_19 : decode cX4_flipEdges 19 = .ok (.aload_n 0, 1) := by decide +kernel
theorem dX4_flipEdges_20 : decode cX4_flipEdges 20 = .ok (.getfield 18, 3) := by decide +kernel
theorem dX4_flipEdges_23 : decode cX4_flipEdges 23 = .ok (.iload_n 2, 1) := by decide +kernel
theorem dX4_flipEdges_24 : decode cX4_flipEdges 24 = .ok (.iload_n 1, 1) := by decide +kernel
theorem dX4_flipEdges_25 : decode cX4_flipEdges 25 = .ok (.aload_n 0, 1) := by decide +kernel
theorem dX4_flipEdges_26 : decode cX4_flipEdges 26 = .ok (.getfield 18, 3) := by decide +kernel
theorem dX4_flipEdges_29 : decode cX4_flipEdges 29 = .ok (.iload_n 2, 1) := by decide +kernel
theorem dX4_flipEdges_30 : decode cX4_flipEdges 30 = .ok (.iaload, 1) := by decide +kernel
theorem dX4_flipEdges_31 : decode cX4_flipEdges 31 = .ok (.iconst (-1), 1) := by decide +kernel
theorem dX4_flipEdges_32 : decode cX4_flipEdges 32 = .ok (.ixor, 1) := by decide +kernel
theorem dX4_flipEdges_33 : decode cX4_flipEdges 33 = .ok (.iand, 1) := by decide +kernel
theorem dX4_flipEdges_34 : decode cX4_flipEdges 34 = .ok (.iconst 1, 1) := by decide +kernel
theorem dX4_flipEdges_35 : decode cX4_flipEdges 35 = .ok (.iload_n 2, 1) := by decide +kernel
theorem dX4_flipEdges_36 : decode cX4_flipEdges 36 = .ok (.ishl, 1) := by decide +kernel
theorem dX4_flipEdges_37 : decode cX4_flipEdges 37 = .ok (.iconst (-1), 1) := by decide +kernel
theorem dX4_flipEdges_38 : decode cX4_flipEdges 38 = .ok (.ixor, 1) := by decide +kernel
theorem dX4_flipEdges_39 : decode cX4_flipEdges 39 = .ok (.iand, 1) := by decide +kernel
theorem dX4_flipEdges_40 : decode cX4_flipEdges 40 = .ok (.iastore, 1) := by decide +kernel
theorem dX4_flipEdges_41 : decode cX4_flipEdges 41 = .ok (.iinc 2 1, 3) := by decide +kernel
theorem dX4_flipEdges_44 : decode cX4_flipEdges 44 = .ok (.goto (-33), 3) := by decide +kernel
theorem dX4_flipEdges_47 : decode cX4_flipEdges 47 = .ok (.return_, 1) := by decide +kernel
theorem dX4_drop_0 : decode cX4_drop 0 = .ok (.iconst 1, 1) := by decide +kernel
theorem dX4_drop_1 : decode cX4_drop 1 = .ok (.iload_n 1, 1) := by decide +kernel
theorem dX4_drop_2 : decode cX4_drop 2 = .ok (.ishl, 1) := by decide +kernel
theorem dX4_drop_3 : decode cX4_drop 3 = .ok (.iconst 1, 1) := by decide +kernel
theorem dX4_drop_4 : decode cX4_drop 4 = .ok (.isub, 1) := by decide +kernel
theorem dX4_drop_5 : decode cX4_drop 5 = .ok (.istore_n 2, 1) := by decide +kernel
theorem dX4_drop_6 : decode cX4_drop 6 = .ok (.iconst 0, 1) := by decide +kernel
theorem dX4_drop_7 : decode cX4_drop 7 = .ok (.istore_n 3, 1) := by decide +kernel
theorem dX4_drop_8 : decode cX4_drop 8 = .ok (.iload_n 3, 1) := by decide +kernel
theorem dX4_drop_9 : decode cX4_drop 9 = .ok (.aload_n 0, 1) := by decide +kernel
theorem dX4_drop_10 : decode cX4_drop 10 = .ok (.getfield 9, 3) := by decide +kernel
theorem dX4_drop_13 : decode cX4_drop 13 = .ok (.if_icmp .ge 36, 3) := by decide +kernel
theorem dX4_drop_16 : decode cX4_drop 16 = .ok (.aload_n 0, 1) := by decide +kernel
theorem dX4_drop_17 : decode cX4_drop 17 = .ok (.getfield 18, 3) := by decide +kernel
theorem dX4_drop_20 : decode cX4_drop 20 = .ok (.iload_n 3, 1) := by decide +kernel
theorem dX4_drop_21 : decode cX4_drop 21 = .ok (.iaload, 1) := by decide +kernel
theorem dX4_drop_22 : decode cX4_drop 22 = .ok (.istore 4, 2) := by decide +kernel
theorem dX4_drop_24 : decode cX4_drop 24 = .ok (.aload_n 0, 1) := by decide +kernel
theorem dX4_drop_25 : decode cX4_drop 25 = .ok (.getfield 18, 3) := by decide +kernel
theorem dX4_drop_28 : decode cX4_drop 28 = .ok (.iload_n 3, 1) := by decide +kernel
theorem dX4_drop_29 : decode cX4_drop 29 = .ok (.iload 4, 2) := by decide +kernel
theorem dX4_drop_31 : decode cX4_drop 31 = .ok (.iload_n 2, 1) := by decide +kernel
theorem dX4_drop_32 : decode cX4_drop 32 = .ok (.iand, 1) := by decide +kernel
theorem dX4_drop_33 : decode cX4_drop 33 = .ok (.iload 4, 2) := by decide +kernel
theorem dX4_drop_35 : decode cX4_drop 35 = .ok (.iconst 1, 1) := by decide +kernel
theorem dX4_drop_36 : decode cX4_drop 36 = .ok (.ishr, 1) := by decide +kernel
theorem dX4_drop_37 : decode cX4_drop 37 = .ok (.iload_n 2, 1) := by decide +kernel
theorem dX4_drop_38 : decode cX4_drop 38 = .ok (.iconst (-1), 1) := by decide +kernel
theorem dX4_drop_39 : decode cX4_drop 39 = .ok (.ixor, 1) := by decide +kernel
theorem dX4_drop_40 : decode cX4_drop 40 = .ok (.iand, 1) := by decide +kernel
theorem dX4_drop_41 : decode cX4_drop 41 = .ok (.ior, 1) := by decide +kernel
theorem dX4_drop_42 : decode cX4_drop 42 = .ok (.iastore, 1) := by decide +kernel
theorem dX4_drop_43 : decode cX4_drop 43 = .ok (.iinc 3 1, 3) := by decide +kernel
theorem dX4_drop_46 : decode cX4_drop 46 = .ok (.goto (-38), 3) := by decide +kernel
theorem dX4_drop_49 : decode cX4_drop 49 = .ok (.iload_n 1, 1) := by decide +kernel
theorem dX4_drop_50 : decode cX4_drop 50 = .ok (.istore_n 3, 1) := by decide +kernel
theorem dX4_drop_51 : decode cX4_drop 51 = .ok (.iload_n 3, 1) := by decide +kernel
theorem dX4_drop_52 : decode cX4_drop 52 = .ok (.iconst 1, 1) := by decide +kernel
theorem dX4_drop_53 : decode cX4_drop 53 = .ok (.iadd, 1) := by decide +kernel
theorem dX4_drop_54 : decode cX4_drop 54 = .ok (.aload_n 0, 1) := by decide +kernel
theorem dX4_drop_55 : decode cX4_drop 55 = .ok (.getfield 9, 3) := by decide +kernel
theorem dX4_drop_58 : decode cX4_drop 58 = .ok (.if_icmp .ge 57, 3) := by decide +kernel
theorem dX4_drop_61 : decode cX4_drop 61 = .ok (.aload_n 0, 1) := by decide +kernel
theorem dX4_drop_62 : decode cX4_drop 62 = .ok (.getfield 18, 3) := by decide +kernel
theorem dX4_drop_65 : decode cX4_drop 65 = .ok (.iload_n 3, 1) := by decide +kernel
theorem dX4_drop_66 : decode cX4_drop 66 = .ok (.aload_n 0, 1) := by decide +kernel
theorem dX4_drop_67 : decode cX4_drop 67 = .ok (.getfield 18, 3) := by decide +kernel
theorem dX4_drop_70 : decode cX4_drop 70 = .ok (.iload_n 3, 1) := by decide +kernel
theorem dX4_drop_71 : decode cX4_drop 71 = .ok (.iconst 1, 1) := by decide +kernel
theorem dX4_drop_72 : decode cX4_drop 72 = .ok (.iadd, 1) := by decide +kernel
theorem dX4_drop_73 : decode cX4_drop 73 = .ok (.iaload, 1) := by decide +kernel
theorem dX4_drop_74 : decode cX4_drop 74 = .ok (.iastore, 1) := by decide +kernel
theorem dX4_drop_75 : decode cX4_drop 75 = .ok (.aload_n 0, 1) := by decide +kernel
theorem dX4_drop_76 : decode cX4_drop 76 = .ok (.getfield 22, 3) := by decide +kernel
theorem dX4_drop_79 : decode cX4_drop 79 = .ok (.iload_n 3, 1) := by decide +kernel
theorem dX4_drop_80 : decode cX4_drop 80 = .ok (.aload_n 0, 1) := by decide +kernel
theorem dX4_drop_81 : decode cX4_drop 81 = .ok (.getfield 22, 3) := by decide +kernel
theorem dX4_drop_84 : decode cX4_drop 84 = .ok (.iload_n 3, 1) := by decide +kernel
theorem dX4_drop_85 : decode cX4_drop 85 = .ok (.iconst 1, 1) := by decide +kernel
theorem dX4_drop_86 : decode cX4_drop 86 = .ok (.iadd, 1) := by decide +kernel
theorem dX4_drop_87 : decode cX4_drop 87 = .ok (.iaload, 1) := by decide +kernel
theorem dX4_drop_88 : decode cX4_drop 88 = .ok (.iastore, 1) := by decide +kernel
theorem dX4_drop_89 : decode cX4_drop 89 = .ok (.aload_n 0, 1) := by decide +kernel
theorem dX4_drop_90 : decode cX4_drop 90 = .ok (.getfield 27, 3) := by decide +kernel
theorem dX4_drop_93 : decode cX4_drop 93 = .ok (.iload_n 3, 1) := by decide +kernel
theorem dX4_drop_94 : decode cX4_drop 94 = .ok (.iconst 1, 1) := by decide +kernel
theorem dX4_drop_95 : decode cX4_drop 95 = .ok (.iadd, 1) := by decide +kernel
theorem dX4_drop_96 : decode cX4_drop 96 = .ok (.aaload, 1) := by decide +kernel
theorem dX4_drop_97 : decode cX4_drop 97 = .ok (.iconst 0, 1) := by decide +kernel
theorem dX4_drop_98 : decode cX4_drop 98 = .ok (.aload_n 0, 1) := by decide +kernel
theorem dX4_drop_99 : decode cX4_drop 99 = .ok (.getfield 27, 3) := by decide +kernel
theorem dX4_drop_102 : decode cX4_drop 102 = .ok (.iload_n 3, 1) := by decide +kernel
theorem dX4_drop_103 : decode cX4_drop 103 = .ok (.aaload, 1) := by decide +kernel
theorem dX4_drop_104 : decode cX4_drop 104 = .ok (.iconst 0, 1) := by decide +kernel
theorem dX4_drop_105 : decode cX4_drop 105 = .ok (.iconst 4, 1) := by decide +kernel
theorem dX4_drop_106 : decode cX4_drop 106 = .ok (.invokestatic 39, 3) := by decide +kernel
theorem dX4_drop_109 : decode cX4_drop 109 = .ok (.iinc 3 1, 3) := by decide +kernel
theorem dX4_drop_112 : decode cX4_drop 112 = .ok (.goto (-61), 3) := by decide +kernel
theorem dX4_drop_115 : decode cX4_drop 115 = .ok (.aload_n 0, 1) := by decide +kernel
theorem dX4_drop_116 : decode cX4_drop 116 = .ok (.dup, 1) := by decide +kernel
theorem dX4_drop_117 : decode cX4_drop 117 = .ok (.getfield 9, 3) := by decide +kernel
theorem dX4_drop_120 : decode cX4_drop 120 = .ok (.iconst 1, 1) := by decide +kernel
theorem dX4_drop_121 : decode cX4_drop 121 = .ok (.isub, 1) := by decide +kernel
theorem dX4_drop_122 : decode cX4_drop 122 = .ok (.putfield 9, 3) := by decide +kernel
theorem dX4_drop_125 : decode cX4_drop 125 = .ok (.return_, 1) := by decide +kernel
theorem dX4_becomeProduct_0 : decode cX4_becomeProduct 0 = .ok (.aload_n 0, 1) := by decide +kernel
theorem dX4_becomeProduct_1 : decode cX4_becomeProduct 1 = .ok (.aload_n 1, 1) := by decide +kernel
theorem dX4_becomeProduct_2 : decode cX4_becomeProduct 2 = .ok (.getfield 9, 3) := by decide +kernel
theorem dX4_becomeProduct_5 : decode cX4_becomeProduct 5 = .ok (.aload_n 2, 1) := by decide +kernel
theorem dX4_becomeProduct_6 : decode cX4_becomeProduct 6 = .ok (.getfield 9, 3) := by decide +kernel
theorem dX4_becomeProduct_9 : decode cX4_becomeProduct 9 = .ok (.imul, 1) := by decide +kernel
theorem dX4_becomeProduct_10 : decode cX4_becomeProduct 10 = .ok (.aload_n 1, 1) := by decide +kernel
theorem dX4_becomeProduct_11 : decode cX4_becomeProduct 11 = .ok (.getfield 15, 3) := by decide +kernel
theorem dX4_becomeProduct_14 : decode cX4_becomeProduct 14 = .ok (.aload_n 2, 1) := by decide +kernel
theorem dX4_becomeProduct_15 : decode cX4_becomeProduct 15 = .ok (.getfield 15, 3) := by decide +kernel
theorem dX4_becomeProduct_18 : decode cX4_becomeProduct 18 = .ok (.imul, 1) := by decide +kernel
theorem dX4_becomeProduct_19 : decode cX4_becomeProduct 19 = .ok (.invokevirtual 51, 3) := by decide +kernel
theorem dX4_becomeProduct_22 : decode cX4_becomeProduct 22 = .ok (.iconst 0, 1) := by decide +kernel
theorem dX4_becomeProduct_23 : decode cX4_becomeProduct 23 = .ok (.istore_n 3, 1) := by decide +kernel
theorem dX4_becomeProduct_24 : decode cX4_becomeProduct 24 = .ok (.iload_n 3, 1) := by decide +kernel
theorem dX4_becomeProduct_25 : decode cX4_becomeProduct 25 = .ok (.aload_n 1, 1) := by decide +kernel
theorem dX4_becomeProduct_26 : decode cX4_becomeProduct 26 = .ok (.getfield 9, 3) := by decide +kernel
theorem dX4_becomeProduct_29 : decode cX4_becomeProduct 29 = .ok (.if_icmp .ge 99, 3) := by decide +kernel
theorem dX4_becomeProduct_32 : decode cX4_becomeProduct 32 = .ok (.iconst 0, 1) := by decide +kernel
theorem dX4_becomeProduct_33 : decode cX4_becomeProduct 33 = .ok (.istore 4, 2) := by decide +kernel
theorem dX4_becomeProduct_35 : decode cX4_becomeProduct 35 = .ok (.iload 4, 2) := by decide +kernel
theorem dX4_becomeProduct_37 : decode cX4_becomeProduct 37 = .ok (.aload_n 2, 1) := by decide +kernel
theorem dX4_becomeProduct_38 : decode cX4_becomeProduct 38 = .ok (.getfield 9, 3) := by decide +kernel
theorem dX4_becomeProduct_41 : decode cX4_becomeProduct 41 = .ok (.if_icmp .ge 81, 3) := by decide +kernel
theorem dX4_becomeProduct_44 : decode cX4_becomeProduct 44 = .ok (.aload_n 2, 1) := by decide +kernel
theorem dX4_becomeProduct_45 : decode cX4_becomeProduct 45 = .ok (.getfield 9, 3) := by decide +kernel
theorem dX4_becomeProduct_48 : decode cX4_becomeProduct 48 = .ok (.iload_n 3, 1) := by decide +kernel
theorem dX4_becomeProduct_49 : decode cX4_becomeProduct 49 = .ok (.imul, 1) := by decide +kernel
theorem dX4_becomeProduct_50 : decode cX4_becomeProduct 50 = .ok (.iload 4, 2) := by decide +kernel
theorem dX4_becomeProduct_52 : decode cX4_becomeProduct 52 = .ok (.iadd, 1) := by decide +kernel
theorem dX4_becomeProduct_53 : decode cX4_becomeProduct 53 = .ok (.istore 5, 2) := by decide +kernel
theorem dX4_becomeProduct_55 : decode cX4_becomeProduct 55 = .ok (.aload_n 0, 1) := by decide +kernel
theorem dX4_becomeProduct_56 : decode cX4_becomeProduct 56 = .ok (.getfield 18, 3) := by decide +kernel
theorem dX4_becomeProduct_59 : decode cX4_becomeProduct 59 = .ok (.iload 5, 2) := by decide +kernel
theorem dX4_becomeProduct_61 : decode cX4_becomeProduct 61 = .ok (.aload_n 1, 1) := by decide +kernel
theorem dX4_becomeProduct_62 : decode cX4_becomeProduct 62 = .ok (.iload_n 3, 1) := by decide +kernel
theorem dX4_becomeProduct_63 : decode cX4_becomeProduct 63 = .ok (.aload_n 2, 1) := by decide +kernel
theorem dX4_becomeProduct_64 : decode cX4_becomeProduct 64 = .ok (.iload 4, 2) := by decide +kernel
theorem dX4_becomeProduct_66 : decode cX4_becomeProduct 66 = .ok (.invokestatic 55, 3) := by decide +kernel
theorem dX4_becomeProduct_69 : decode cX4_becomeProduct 69 = .ok (.iastore, 1) := by decide +kernel
theorem dX4_becomeProduct_70 : decode cX4_becomeProduct 70 = .ok (.aload_n 0, 1) := by decide +kernel
theorem dX4_becomeProduct_71 : decode cX4_becomeProduct 71 = .ok (.getfield 22, 3) := by decide +kernel
theorem dX4_becomeProduct_74 : decode cX4_becomeProduct 74 = .ok (.iload 5, 2) := by decide +kernel
theorem dX4_becomeProduct_76 : decode cX4_becomeProduct 76 = .ok (.aload_n 1, 1) := by decide +kernel
theorem dX4_becomeProduct_77 : decode cX4_becomeProduct 77 = .ok (.getfield 22, 3) := by decide +kernel
theorem dX4_becomeProduct_80 : decode cX4_becomeProduct 80 = .ok (.iload_n 3, 1) := by decide +kernel
theorem dX4_becomeProduct_81 : decode cX4_becomeProduct 81 = .ok (.iaload, 1) := by decide +kernel
theorem dX4_becomeProduct_82 : decode cX4_becomeProduct 82 = .ok (.aload_n 2, 1) := by decide +kernel
theorem dX4_becomeProduct_83 : decode cX4_becomeProduct 83 = .ok (.getfield 22, 3) := by decide +kernel
theorem dX4_becomeProduct_86 : decode cX4_becomeProduct 86 = .ok (.iload 4, 2) := by decide +kernel
theorem dX4_becomeProduct_88 : decode cX4_becomeProduct 88 = .ok (.iaload, 1) := by decide +kernel
theorem dX4_becomeProduct_89 : decode cX4_becomeProduct 89 = .ok (.imul, 1) := by decide +kernel
theorem dX4_becomeProduct_90 : decode cX4_becomeProduct 90 = .ok (.iastore, 1) := by decide +kernel
theorem dX4_becomeProduct_91 : decode cX4_becomeProduct 91 = .ok (.aload_n 1, 1) := by decide +kernel
theorem dX4_becomeProduct_92 : decode cX4_becomeProduct 92 = .ok (.aload_n 1, 1) := by decide +kernel
theorem dX4_becomeProduct_93 : decode cX4_becomeProduct 93 = .ok (.getfield 27, 3) := by decide +kernel
theorem dX4_becomeProduct_96 : decode cX4_becomeProduct 96 = .ok (.iload_n 3, 1) := by decide +kernel
theorem dX4_becomeProduct_97 : decode cX4_becomeProduct 97 = .ok (.aaload, 1) := by decide +kernel
theorem dX4_becomeProduct_98 : decode cX4_becomeProduct 98 = .ok (.aload_n 2, 1) := by decide +kernel
theorem dX4_becomeProduct_99 : decode cX4_becomeProduct 99 = .ok (.aload_n 2, 1) := by decide +kernel
theorem dX4_becomeProduct_100 : decode cX4_becomeProduct 100 = .ok (.getfield 27, 3) := by decide +kernel
theorem dX4_becomeProduct_103 : decode cX4_becomeProduct 103 = .ok (.iload 4, 2) := by decide +kernel
theorem dX4_becomeProduct_105 : decode cX4_becomeProduct 105 = .ok (.aaload, 1) := by decide +kernel
theorem dX4_becomeProduct_106 : decode cX4_becomeProduct 106 = .ok (.aload_n 0, 1) := by decide +kernel
theorem dX4_becomeProduct_107 : decode cX4_becomeProduct 107 = .ok (.getfield 27, 3) := by decide +kernel
theorem dX4_becomeProduct_110 : decode cX4_becomeProduct 110 = .ok (.iload 5, 2) := by decide +kernel
theorem dX4_becomeProduct_112 : decode cX4_becomeProduct 112 = .ok (.aaload, 1) := by decide +kernel
theorem dX4_becomeProduct_113 : decode cX4_becomeProduct 113 = .ok (.invokestatic 59, 3) := by decide +kernel
theorem dX4_becomeProduct_116 : decode cX4_becomeProduct 116 = .ok (.iinc 4 1, 3) := by decide +kernel
theorem dX4_becomeProduct_119 : decode cX4_becomeProduct 119 = .ok (.goto (-84), 3) := by decide +kernel
theorem dX4_becomeProduct_122 : decode cX4_becomeProduct 122 = .ok (.iinc 3 1, 3) := by decide +kernel
theorem dX4_becomeProduct_125 : decode cX4_becomeProduct 125 = .ok (.goto (-101), 3) := by decide +kernel
theorem dX4_becomeProduct_128 : decode cX4_becomeProduct 128 = .ok (.aload_n 1, 1) := by decide +kernel
theorem dX4_becomeProduct_129 : decode cX4_becomeProduct 129 = .ok (.aload_n 1, 1) := by decide +kernel
theorem dX4_becomeProduct_130 : decode cX4_becomeProduct 130 = .ok (.getfield 30, 3) := by decide +kernel
theorem dX4_becomeProduct_133 : decode cX4_becomeProduct 133 = .ok (.aload_n 2, 1) := by decide +kernel
theorem dX4_becomeProduct_134 : decode cX4_becomeProduct 134 = .ok (.aload_n 2, 1) := by decide +kernel
theorem dX4_becomeProduct_135 : decode cX4_becomeProduct 135 = .ok (.getfield 30, 3) := by decide +kernel
theorem dX4_becomeProduct_138 : decode cX4_becomeProduct 138 = .ok (.aload_n 0, 1) := by decide +kernel
theorem dX4_becomeProduct_139 : decode cX4_becomeProduct 139 = .ok (.getfield 30, 3) := by decide +kernel
theorem dX4_becomeProduct_142 : decode cX4_becomeProduct 142 = .ok (.invokestatic 59, 3) := by decide +kernel
theorem dX4_becomeProduct_145 : decode cX4_becomeProduct 145 = .ok (.return_, 1) := by decide +kernel
theorem dX4_productNeighbors_0 : decode cX4_productNeighbors 0 = .ok (.iconst 0, 1) := by decide +kernel
theorem dX4_productNeighbors_1 : decode cX4_productNeighbors 1 = .ok (.istore 4, 2) := by decide +kernel
theorem dX4_productNeighbors_3 : decode cX4_productNeighbors 3 = .ok (.iconst 0, 1) := by decide +kernel
theorem dX4_productNeighbors_4 : decode cX4_productNeighbors 4 = .ok (.istore 5, 2) := by decide +kernel
theorem dX4_productNeighbors_6 : decode cX4_productNeighbors 6 = .ok (.iload 5, 2) := by decide +kernel
theorem dX4_productNeighbors_8 : decode cX4_productNeighbors 8 = .ok (.aload_n 0, 1) := by decide +kernel
theorem dX4_productNeighbors_9 : decode cX4_productNeighbors 9 = .ok (.getfield 9, 3) := by decide +kernel
theorem dX4_productNeighbors_12 : decode cX4_productNeighbors 12 = .ok (.if_icmp .ge 64, 3) := by decide +kernel
theorem dX4_productNeighbors_15 : decode cX4_productNeighbors 15 = .ok (.iconst 0, 1) := by decide +kernel
theorem dX4_productNeighbors_16 : decode cX4_productNeighbors 16 = .ok (.istore 6, 2) := by decide +kernel
theorem dX4_productNeighbors_18 : decode cX4_productNeighbors 18 = .ok (.iload 6, 2) := by decide +kernel
theorem dX4_productNeighbors_20 : decode cX4_productNeighbors 20 = .ok (.aload_n 2, 1) := by decide +kernel
theorem dX4_productNeighbors_21 : decode cX4_productNeighbors 21 = .ok (.getfield 9, 3) := by decide +kernel
theorem dX4_productNeighbors_24 : decode cX4_productNeighbors 24 = .ok (.if_icmp .ge 46, 3) := by decide +kernel
theorem dX4_productNeighbors_27 : decode cX4_productNeighbors 27 = .ok (.aload_n 0, 1) := by decide +kernel
theorem dX4_productNeighbors_28 : decode cX4_productNeighbors 28 = .ok (.iload_n 1, 1) := by decide +kernel
theorem dX4_productNeighbors_29 : decode cX4_productNeighbors 29 = .ok (.iload 5, 2) := by decide +kernel
theorem dX4_productNeighbors_31 : decode cX4_productNeighbors 31 = .ok (.invokevirtual 63, 3) := by decide +kernel
theorem dX4_productNeighbors_34 : decode cX4_productNeighbors 34 = .ok (.ifCond .ne 13, 3) := by decide +kernel
theorem dX4_productNeighbors_37 : decode cX4_productNeighbors 37 = .ok (.aload_n 2, 1) := by decide +kernel
theorem dX4_productNeighbors_38 : decode cX4_productNeighbors 38 = .ok (.iload_n 3, 1) := by decide +kernel
theorem dX4_productNeighbors_39 : decode cX4_productNeighbors 39 = .ok (.iload 6, 2) := by decide +kernel
theorem dX4_productNeighbors_41 : decode cX4_productNeighbors 41 = .ok (.invokevirtual 63, 3) := by decide +kernel
theorem dX4_productNeighbors_44 : decode cX4_productNeighbors 44 = .ok (.ifCond .eq 20, 3) := by decide +kernel
theorem dX4_productNeighbors_47 : decode cX4_productNeighbors 47 = .ok (.iload 4, 2) := by decide +kernel
theorem dX4_productNeighbors_49 : decode cX4_productNeighbors 49 = .ok (.iconst 1, 1) := by decide +kernel
theorem dX4_productNeighbors_50 : decode cX4_productNeighbors 50 = .ok (.aload_n 2, 1) := by decide +kernel
theorem dX4_productNeighbors_51 : decode cX4_productNeighbors 51 = .ok (.getfield 9, 3) := by decide +kernel
theorem dX4_productNeighbors_54 : decode cX4_productNeighbors 54 = .ok (.iload 5, 2) := by decide +kernel
theorem dX4_productNeighbors_56 : decode cX4_productNeighbors 56 = .ok (.imul, 1) := by decide +kernel
theorem dX4_productNeighbors_57 : decode cX4_productNeighbors 57 = .ok (.iload 6, 2) := by decide +kernel
theorem dX4_productNeighbors_59 : decode cX4_productNeighbors 59 = .ok (.iadd, 1) := by decide +kernel
theorem dX4_productNeighbors_60 : decode cX4_productNeighbors 60 = .ok (.ishl, 1) := by decide +kernel
theorem dX4_productNeighbors_61 : decode cX4_productNeighbors 61 = .ok (.ior, 1) := by decide +kernel
theorem dX4_productNeighbors_62 : decode cX4_productNeighbors 62 = .ok (.istore 4, 2) := by decide +kernel
theorem dX4_productNeighbors_64 : decode cX4_productNeighbors 64 = .ok (.iinc 6 1, 3) := by decide +kernel
theorem dX4_productNeighbors_67 : decode cX4_productNeighbors 67 = .ok (.goto (-49), 3) := by decide +kernel
theorem dX4_productNeighbors_70 : decode cX4_productNeighbors 70 = .ok (.iinc 5 1, 3) := by decide +kernel
theorem dX4_productNeighbors_73 : decode cX4_productNeighbors 73 = .ok (.goto (-67), 3) := by decide +kernel
theorem dX4_productNeighbors_76 : decode cX4_productNeighbors 76 = .ok (.iload 4, 2) := by decide +kernel
theorem dX4_productNeighbors_78 : decode cX4_productNeighbors 78 = .ok (.ireturn, 1) := by decide +kernel
theorem dX4_fillProduct_0 : decode cX4_fillProduct 0 = .ok (.iconst 0, 1) := by decide +kernel
theorem dX4_fillProduct_1 : decode cX4_fillProduct 1 = .ok (.istore 5, 2) := by decide +kernel
theorem dX4_fillProduct_3 : decode cX4_fillProduct 3 = .ok (.iload 5, 2) := by decide +kernel
theorem dX4_fillProduct_5 : decode cX4_fillProduct 5 = .ok (.aload_n 0, 1) := by decide +kernel
theorem dX4_fillProduct_6 : decode cX4_fillProduct 6 = .ok (.getfield 15, 3) := by decide +kernel
theorem dX4_fillProduct_9 : decode cX4_fillProduct 9 = .ok (.if_icmp .ge 49, 3) := by decide +kernel
theorem dX4_fillProduct_12 : decode cX4_fillProduct 12 = .ok (.iconst 0, 1) := by decide +kernel
theorem dX4_fillProduct_13 : decode cX4_fillProduct 13 = .ok (.istore 6, 2) := by decide +kernel
theorem dX4_fillProduct_15 : decode cX4_fillProduct 15 = .ok (.iload 6, 2) := by decide +kernel
theorem dX4_fillProduct_17 : decode cX4_fillProduct 17 = .ok (.aload_n 2, 1) := by decide +kernel
theorem dX4_fillProduct_18 : decode cX4_fillProduct 18 = .ok (.getfield 15, 3) := by decide +kernel
theorem dX4_fillProduct_21 : decode cX4_fillProduct 21 = .ok (.if_icmp .ge 31, 3) := by decide +kernel
theorem dX4_fillProduct_24 : decode cX4_fillProduct 24 = .ok (.aload 4, 2) := by decide +kernel
theorem dX4_fillProduct_26 : decode cX4_fillProduct 26 = .ok (.aload_n 2, 1) := by decide +kernel
theorem dX4_fillProduct_27 : decode cX4_fillProduct 27 = .ok (.getfield 15, 3) := by decide +kernel
theorem dX4_fillProduct_30 : decode cX4_fillProduct 30 = .ok (.iload 5, 2) := by decide +kernel
theorem dX4_fillProduct_32 : decode cX4_fillProduct 32 = .ok (.imul, 1) := by decide +kernel
theorem dX4_fillProduct_33 : decode cX4_fillProduct 33 = .ok (.iload 6, 2) := by decide +kernel
theorem dX4_fillProduct_35 : decode cX4_fillProduct 35 = .ok (.iadd, 1) := by decide +kernel
theorem dX4_fillProduct_36 : decode cX4_fillProduct 36 = .ok (.aload_n 1, 1) := by decide +kernel
theorem dX4_fillProduct_37 : decode cX4_fillProduct 37 = .ok (.iload 5, 2) := by decide +kernel
theorem dX4_fillProduct_39 : decode cX4_fillProduct 39 = .ok (.iaload, 1) := by decide +kernel
theorem dX4_fillProduct_40 : decode cX4_fillProduct 40 = .ok (.aload_n 3, 1) := by decide +kernel
theorem dX4_fillProduct_41 : decode cX4_fillProduct 41 = .ok (.iload 6, 2) := by decide +kernel
theorem dX4_fillProduct_43 : decode cX4_fillProduct 43 = .ok (.iaload, 1) := by decide +kernel
theorem dX4_fillProduct_44 : decode cX4_fillProduct 44 = .ok (.imul, 1) := by decide +kernel
theorem dX4_fillProduct_45 : decode cX4_fillProduct 45 = .ok (.iastore, 1) := by decide +kernel
theorem dX4_fillProduct_46 : decode cX4_fillProduct 46 = .ok (.iinc 6 1, 3) := by decide +kernel
theorem dX4_fillProduct_49 : decode cX4_fillProduct 49 = .ok (.goto (-34), 3) := by decide +kernel
theorem dX4_fillProduct_52 : decode cX4_fillProduct 52 = .ok (.iinc 5 1, 3) := by decide +kernel
theorem dX4_fillProduct_55 : decode cX4_fillProduct 55 = .ok (.goto (-52), 3) := by decide +kernel
theorem dX4_fillProduct_58 : decode cX4_fillProduct 58 = .ok (.return_, 1) := by decide +kernel
theorem dX4_labelBy_0 : decode cX4_labelBy 0 = .ok (.iconst 0, 1) := by decide +kernel
theorem dX4_labelBy_1 : decode cX4_labelBy 1 = .ok (.istore_n 2, 1) := by decide +kernel
theorem dX4_labelBy_2 : decode cX4_labelBy 2 = .ok (.iload_n 2, 1) := by decide +kernel
theorem dX4_labelBy_3 : decode cX4_labelBy 3 = .ok (.iconst 4, 1) := by decide +kernel
theorem dX4_labelBy_4 : decode cX4_labelBy 4 = .ok (.if_icmp .ge 67, 3) := by decide +kernel
theorem dX4_labelBy_7 : decode cX4_labelBy 7 = .ok (.iconst 0, 1) := by decide +kernel
theorem dX4_labelBy_8 : decode cX4_labelBy 8 = .ok (.istore_n 3, 1) := by decide +kernel
theorem dX4_labelBy_9 : decode cX4_labelBy 9 = .ok (.iload_n 3, 1) := by decide +kernel
theorem dX4_labelBy_10 : decode cX4_labelBy 10 = .ok (.aload_n 0, 1) := by decide +kernel
theorem dX4_labelBy_11 : decode cX4_labelBy 11 = .ok (.getfield 9, 3) := by decide +kernel
theorem dX4_labelBy_14 : decode cX4_labelBy 14 = .ok (.if_icmp .ge 32, 3) := by decide +kernel
theorem dX4_labelBy_17 : decode cX4_labelBy 17 = .ok (.aload_n 0, 1) := by decide +kernel
theorem dX4_labelBy_18 : decode cX4_labelBy 18 = .ok (.getfield 27, 3) := by decide +kernel
theorem dX4_labelBy_21 : decode cX4_labelBy 21 = .ok (.iload_n 3, 1) := by decide +kernel
theorem dX4_labelBy_22 : decode cX4_labelBy 22 = .ok (.aaload, 1) := by decide +kernel
theorem dX4_labelBy_23 : decode cX4_labelBy 23 = .ok (.iload_n 2, 1) := by decide +kernel
theorem dX4_labelBy_24 : decode cX4_labelBy 24 = .ok (.iload_n 2, 1) := by decide +kernel
theorem dX4_labelBy_25 : decode cX4_labelBy 25 = .ok (.aload_n 1, 1) := by decide +kernel
theorem dX4_labelBy_26 : decode cX4_labelBy 26 = .ok (.getfield 67, 3) := by decide +kernel
theorem dX4_labelBy_29 : decode cX4_labelBy 29 = .ok (.iload_n 3, 1) := by decide +kernel
theorem dX4_labelBy_30 : decode cX4_labelBy 30 = .ok (.iaload, 1) := by decide +kernel
theorem dX4_labelBy_31 : decode cX4_labelBy 31 = .ok (.if_icmp .ne 7, 3) := by decide +kernel
theorem dX4_labelBy_34 : decode cX4_labelBy 34 = .ok (.iconst 1, 1) := by decide +kernel
theorem dX4_labelBy_35 : decode cX4_labelBy 35 = .ok (.goto 4, 3) := by decide +kernel
theorem dX4_labelBy_38 : decode cX4_labelBy 38 = .ok (.iconst 0, 1) := by decide +kernel
theorem dX4_labelBy_39 : decode cX4_labelBy 39 = .ok (.iastore, 1) := by decide +kernel
theorem dX4_labelBy_40 : decode cX4_labelBy 40 = .ok (.iinc 3 1, 3) := by decide +kernel
theorem dX4_labelBy_43 : decode cX4_labelBy 43 = .ok (.goto (-34), 3) := by decide +kernel
theorem dX4_labelBy_46 : decode cX4_labelBy 46 = .ok (.aload_n 0, 1) := by decide +kernel
theorem dX4_labelBy_47 : decode cX4_labelBy 47 = .ok (.getfield 30, 3) := by decide +kernel
theorem dX4_labelBy_50 : decode cX4_labelBy 50 = .ok (.iload_n 2, 1) := by decide +kernel
theorem dX4_labelBy_51 : decode cX4_labelBy 51 = .ok (.iload_n 2, 1) := by decide +kernel
theorem dX4_labelBy_52 : decode cX4_labelBy 52 = .ok (.aload_n 1, 1) := by decide +kernel
theorem dX4_labelBy_53 : decode cX4_labelBy 53 = .ok (.getfield 72, 3) := by decide +kernel
theorem dX4_labelBy_56 : decode cX4_labelBy 56 = .ok (.if_icmp .ge 7, 3) := by decide +kernel
theorem dX4_labelBy_59 : decode cX4_labelBy 59 = .ok (.iconst 1, 1) := by decide +kernel
theorem dX4_labelBy_60 : decode cX4_labelBy 60 = .ok (.goto 4, 3) := by decide +kernel
theorem dX4_labelBy_63 : decode cX4_labelBy 63 = .ok (.iconst 0, 1) := by decide +kernel
theorem dX4_labelBy_64 : decode cX4_labelBy 64 = .ok (.iastore, 1) := by decide +kernel
theorem dX4_labelBy_65 : decode cX4_labelBy 65 = .ok (.iinc 2 1, 3) := by decide +kernel
theorem dX4_labelBy_68 : decode cX4_labelBy 68 = .ok (.goto (-66), 3) := by decide +kernel
theorem dX4_labelBy_71 : decode cX4_labelBy 71 = .ok (.return_, 1) := by decide +kernel
theorem dX4_greatestWeight_0 : decode cX4_greatestWeight 0 = .ok (.iconst 0, 1) := by decide +kernel
theorem dX4_greatestWeight_1 : decode cX4_greatestWeight 1 = .ok (.istore_n 1, 1) := by decide +kernel
theorem dX4_greatestWeight_2 : decode cX4_greatestWeight 2 = .ok (.iconst 0, 1) := by decide +kernel
theorem dX4_greatestWeight_3 : decode cX4_greatestWeight 3 = .ok (.istore_n 2, 1) := by decide +kernel
theorem dX4_greatestWeight_4 : decode cX4_greatestWeight 4 = .ok (.iload_n 2, 1) := by decide +kernel
theorem dX4_greatestWeight_5 : decode cX4_greatestWeight 5 = .ok (.aload_n 0, 1) := by decide +kernel
theorem dX4_greatestWeight_6 : decode cX4_greatestWeight 6 = .ok (.getfield 9, 3) := by decide +kernel
theorem dX4_greatestWeight_9 : decode cX4_greatestWeight 9 = .ok (.if_icmp .ge 20, 3) := by decide +kernel
theorem dX4_greatestWeight_12 : decode cX4_greatestWeight 12 = .ok (.iload_n 1, 1) := by decide +kernel
theorem dX4_greatestWeight_13 : decode cX4_greatestWeight 13 = .ok (.aload_n 0, 1) := by decide +kernel
theorem dX4_greatestWeight_14 : decode cX4_greatestWeight 14 = .ok (.getfield 22, 3) := by decide +kernel
theorem dX4_greatestWeight_17 : decode cX4_greatestWeight 17 = .ok (.iload_n 2, 1) := by decide +kernel
theorem dX4_greatestWeight_18 : decode cX4_greatestWeight 18 = .ok (.iaload, 1) := by decide +kernel
theorem dX4_greatestWeight_19 : decode cX4_greatestWeight 19 = .ok (.invokestatic 75, 3) := by decide +kernel
theorem dX4_greatestWeight_22 : decode cX4_greatestWeight 22 = .ok (.istore_n 1, 1) := by decide +kernel
theorem dX4_greatestWeight_23 : decode cX4_greatestWeight 23 = .ok (.iinc 2 1, 3) := by decide +kernel
theorem dX4_greatestWeight_26 : decode cX4_greatestWeight 26 = .ok (.goto (-22), 3) := by decide +kernel
theorem dX4_greatestWeight_29 : decode cX4_greatestWeight 29 = .ok (.iload_n 1, 1) := by decide +kernel
theorem dX4_greatestWeight_30 : decode cX4_greatestWeight 30 = .ok (.ireturn, 1) := by decide +kernel
theorem dX4_furthestOfLabels_0 : decode cX4_furthestOfLabels 0 = .ok (.iconst 0, 1) := by decide +kernel
theorem dX4_furthestOfLabels_1 : decode cX4_furthestOfLabels 1 = .ok (.istore_n 1, 1) := by decide +kernel
theorem dX4_furthestOfLabels_2 : decode cX4_furthestOfLabels 2 = .ok (.iconst 0, 1) := by decide +kernel
theorem dX4_furthestOfLabels_3 : decode cX4_furthestOfLabels 3 = .ok (.istore_n 2, 1) := by decide +kernel
theorem dX4_furthestOfLabels_4 : decode cX4_furthestOfLabels 4 = .ok (.iload_n 2, 1) := by decide +kernel
theorem dX4_furthestOfLabels_5 : decode cX4_furthestOfLabels 5 = .ok (.aload_n 0, 1) := by decide +kernel
theorem dX4_furthestOfLabels_6 : decode cX4_furthestOfLabels 6 = .ok (.getfield 9, 3) := by decide +kernel
theorem dX4_furthestOfLabels_9 : decode cX4_furthestOfLabels 9 = .ok (.if_icmp .ge 23, 3) := by decide +kernel
theorem dX4_furthestOfLabels_12 : decode cX4_furthestOfLabels 12 = .ok (.iload_n 1, 1) := by decide +kernel
theorem dX4_furthestOfLabels_13 : decode cX4_furthestOfLabels 13 = .ok (.aload_n 0, 1) := by decide +kernel
theorem dX4_furthestOfLabels_14 : decode cX4_furthestOfLabels 14 = .ok (.getfield 27, 3) := by decide +kernel
theorem dX4_furthestOfLabels_17 : decode cX4_furthestOfLabels 17 = .ok (.iload_n 2, 1) := by decide +kernel
theorem dX4_furthestOfLabels_18 : decode cX4_furthestOfLabels 18 = .ok (.aaload, 1) := by decide +kernel
theorem dX4_furthestOfLabels_19 : decode cX4_furthestOfLabels 19 = .ok (.invokestatic 81, 3) := by decide +kernel
theorem dX4_furthestOfLabels_22 : decode cX4_furthestOfLabels 22 = .ok (.invokestatic 75, 3) := by decide +kernel
theorem dX4_furthestOfLabels_25 : decode cX4_furthestOfLabels 25 = .ok (.istore_n 1, 1) := by decide +kernel
theorem dX4_furthestOfLabels_26 : decode cX4_furthestOfLabels 26 = .ok (.iinc 2 1, 3) := by decide +kernel
theorem dX4_furthestOfLabels_29 : decode cX4_furthestOfLabels 29 = .ok (.goto (-25), 3) := by decide +kernel
theorem dX4_furthestOfLabels_32 : decode cX4_furthestOfLabels 32 = .ok (.iload_n 1, 1) := by decide +kernel
theorem dX4_furthestOfLabels_33 : decode cX4_furthestOfLabels 33 = .ok (.ireturn, 1) := by decide +kernel
theorem dX4_unfit_0 : decode cX4_unfit 0 = .ok (.aload_n 0, 1) := by decide +kernel
theorem dX4_unfit_1 : decode cX4_unfit 1 = .ok (.iload_n 1, 1) := by decide +kernel
theorem dX4_unfit_2 : decode cX4_unfit 2 = .ok (.iload_n 2, 1) := by decide +kernel
theorem dX4_unfit_3 : decode cX4_unfit 3 = .ok (.invokevirtual 63, 3) := by decide +kernel
theorem dX4_unfit_6 : decode cX4_unfit 6 = .ok (.ifCond .eq 25, 3) := by decide +kernel
theorem dX4_unfit_9 : decode cX4_unfit 9 = .ok (.aload_n 0, 1) := by decide +kernel
theorem dX4_unfit_10 : decode cX4_unfit 10 = .ok (.getfield 27, 3) := by decide +kernel
theorem dX4_unfit_13 : decode cX4_unfit 13 = .ok (.iload_n 1, 1) := by decide +kernel
theorem dX4_unfit_14 : decode cX4_unfit 14 = .ok (.aaload, 1) := by decide +kernel
theorem dX4_unfit_15 : decode cX4_unfit 15 = .ok (.aload_n 0, 1) := by decide +kernel
theorem dX4_unfit_16 : decode cX4_unfit 16 = .ok (.getfield 27, 3) := by decide +kernel
theorem dX4_unfit_19 : decode cX4_unfit 19 = .ok (.iload_n 2, 1) := by decide +kernel
theorem dX4_unfit_20 : decode cX4_unfit 20 = .ok (.aaload, 1) := by decide +kernel
theorem dX4_unfit_21 : decode cX4_unfit 21 = .ok (.invokestatic 85, 3) := by decide +kernel
theorem dX4_unfit_24 : decode cX4_unfit 24 = .ok (.ifCond .eq 7, 3) := by decide +kernel
theorem dX4_unfit_27 : decode cX4_unfit 27 = .ok (.iconst 1, 1) := by decide +kernel
theorem dX4_unfit_28 : decode cX4_unfit 28 = .ok (.goto 4, 3) := by decide +kernel
theorem dX4_unfit_31 : decode cX4_unfit 31 = .ok (.iconst 0, 1) := by decide +kernel
theorem dX4_unfit_32 : decode cX4_unfit 32 = .ok (.ireturn, 1) := by decide +kernel
theorem dX4_unfitPairs_0 : decode cX4_unfitPairs 0 = .ok (.iconst 0, 1) := by decide +kernel
theorem dX4_unfitPairs_1 : decode cX4_unfitPairs 1 = .ok (.istore_n 1, 1) := by decide +kernel
theorem dX4_unfitPairs_2 : decode cX4_unfitPairs 2 = .ok (.iconst 0, 1) := by decide +kernel
theorem dX4_unfitPairs_3 : decode cX4_unfitPairs 3 = .ok (.istore_n 2, 1) := by decide +kernel
theorem dX4_unfitPairs_4 : decode cX4_unfitPairs 4 = .ok (.iload_n 2, 1) := by decide +kernel
theorem dX4_unfitPairs_5 : decode cX4_unfitPairs 5 = .ok (.aload_n 0, 1) := by decide +kernel
theorem dX4_unfitPairs_6 : decode cX4_unfitPairs 6 = .ok (.getfield 9, 3) := by decide +kernel
theorem dX4_unfitPairs_9 : decode cX4_unfitPairs 9 = .ok (.if_icmp .ge 44, 3) := by decide +kernel
theorem dX4_unfitPairs_12 : decode cX4_unfitPairs 12 = .ok (.iload_n 2, 1) := by decide +kernel
theorem dX4_unfitPairs_13 : decode cX4_unfitPairs 13 = .ok (.iconst 1, 1) := by decide +kernel
theorem dX4_unfitPairs_14 : decode cX4_unfitPairs 14 = .ok (.iadd, 1) := by decide +kernel
theorem dX4_unfitPairs_15 : decode cX4_unfitPairs 15 = .ok (.istore_n 3, 1) := by decide +kernel
theorem dX4_unfitPairs_16 : decode cX4_unfitPairs 16 = .ok (.iload_n 3, 1) := by decide +kernel
theorem dX4_unfitPairs_17 : decode cX4_unfitPairs 17 = .ok (.aload_n 0, 1) := by decide +kernel
theorem dX4_unfitPairs_18 : decode cX4_unfitPairs 18 = .ok (.getfield 9, 3) := by decide +kernel
theorem dX4_unfitPairs_21 : decode cX4_unfitPairs 21 = .ok (.if_icmp .ge 26, 3) := by decide +kernel
theorem dX4_unfitPairs_24 : decode cX4_unfitPairs 24 = .ok (.iload_n 1, 1) := by decide +kernel
theorem dX4_unfitPairs_25 : decode cX4_unfitPairs 25 = .ok (.aload_n 0, 1) := by decide +kernel
theorem dX4_unfitPairs_26 : decode cX4_unfitPairs 26 = .ok (.iload_n 2, 1) := by decide +kernel
theorem dX4_unfitPairs_27 : decode cX4_unfitPairs 27 = .ok (.iload_n 3, 1) := by decide +kernel
theorem dX4_unfitPairs_28 : decode cX4_unfitPairs 28 = .ok (.invokevirtual 89, 3) := by decide +kernel
theorem dX4_unfitPairs_31 : decode cX4_unfitPairs 31 = .ok (.ifCond .eq 7, 3) := by decide +kernel
theorem dX4_unfitPairs_34 : decode cX4_unfitPairs 34 = .ok (.iconst 1, 1) := by decide +kernel
theorem dX4_unfitPairs_35 : decode cX4_unfitPairs 35 = .ok (.goto 4, 3) := by decide +kernel
theorem dX4_unfitPairs_38 : decode cX4_unfitPairs 38 = .ok (.iconst 0, 1) := by decide +kernel
theorem dX4_unfitPairs_39 : decode cX4_unfitPairs 39 = .ok (.iadd, 1) := by decide +kernel
theorem dX4_unfitPairs_40 : decode cX4_unfitPairs 40 = .ok (.istore_n 1, 1) := by decide +kernel
theorem dX4_unfitPairs_41 : decode cX4_unfitPairs 41 = .ok (.iinc 3 1, 3) := by decide +kernel
theorem dX4_unfitPairs_44 : decode cX4_unfitPairs 44 = .ok (.goto (-28), 3) := by decide +kernel
theorem dX4_unfitPairs_47 : decode cX4_unfitPairs 47 = .ok (.iinc 2 1, 3) := by decide +kernel
theorem dX4_unfitPairs_50 : decode cX4_unfitPairs 50 = .ok (.goto (-46), 3) := by decide +kernel
theorem dX4_unfitPairs_53 : decode cX4_unfitPairs 53 = .ok (.iload_n 1, 1) := by decide +kernel
theorem dX4_unfitPairs_54 : decode cX4_unfitPairs 54 = .ok (.ireturn, 1) := by decide +kernel
theorem dX4_unfitPartner_0 : decode cX4_unfitPartner 0 = .ok (.iload_n 1, 1) := by decide +kernel
theorem dX4_unfitPartner_1 : decode cX4_unfitPartner 1 = .ok (.iconst 1, 1) := by decide +kernel
theorem dX4_unfitPartner_2 : decode cX4_unfitPartner 2 = .ok (.iadd, 1) := by decide +kernel
theorem dX4_unfitPartner_3 : decode cX4_unfitPartner 3 = .ok (.istore_n 2, 1) := by decide +kernel
theorem dX4_unfitPartner_4 : decode cX4_unfitPartner 4 = .ok (.iload_n 2, 1) := by decide +kernel
theorem dX4_unfitPartner_5 : decode cX4_unfitPartner 5 = .ok (.aload_n 0, 1) := by decide +kernel
theorem dX4_unfitPartner_6 : decode cX4_unfitPartner 6 = .ok (.getfield 9, 3) := by decide +kernel
theorem dX4_unfitPartner_9 : decode cX4_unfitPartner 9 = .ok (.if_icmp .ge 20, 3) := by decide +kernel
theorem dX4_unfitPartner_12 : decode cX4_unfitPartner 12 = .ok (.aload_n 0, 1) := by decide +kernel
theorem dX4_unfitPartner_13 : decode cX4_unfitPartner 13 = .ok (.iload_n 1, 1) := by decide +kernel
theorem dX4_unfitPartner_14 : decode cX4_unfitPartner 14 = .ok (.iload_n 2, 1) := by decide +kernel
theorem dX4_unfitPartner_15 : decode cX4_unfitPartner 15 = .ok (.invokevirtual 89, 3) := by decide +kernel
theorem dX4_unfitPartner_18 : decode cX4_unfitPartner 18 = .ok (.ifCond .eq 5, 3) := by decide +kernel
theorem dX4_unfitPartner_21 : decode cX4_unfitPartner 21 = .ok (.iload_n 2, 1) := by decide +kernel
theorem dX4_unfitPartner_22 : decode cX4_unfitPartner 22 = .ok (.ireturn, 1) := by decide +kernel
theorem dX4_unfitPartner_23 : decode cX4_unfitPartner 23 = .ok (.iinc 2 1, 3) := by decide +kernel
theorem dX4_unfitPartner_26 : decode cX4_unfitPartner 26 = .ok (.goto (-22), 3) := by decide +kernel
theorem dX4_unfitPartner_29 : decode cX4_unfitPartner 29 = .ok (.iconst (-1), 1) := by decide +kernel
theorem dX4_unfitPartner_30 : decode cX4_unfitPartner 30 = .ok (.ireturn, 1) := by decide +kernel
theorem dX4_firstUnfit_0 : decode cX4_firstUnfit 0 = .ok (.iconst 0, 1) := by decide +kernel
theorem dX4_firstUnfit_1 : decode cX4_firstUnfit 1 = .ok (.istore_n 1, 1) := by decide +kernel
theorem dX4_firstUnfit_2 : decode cX4_firstUnfit 2 = .ok (.iload_n 1, 1) := by decide +kernel
theorem dX4_firstUnfit_3 : decode cX4_firstUnfit 3 = .ok (.aload_n 0, 1) := by decide +kernel
theorem dX4_firstUnfit_4 : decode cX4_firstUnfit 4 = .ok (.getfield 9, 3) := by decide +kernel
theorem dX4_firstUnfit_7 : decode cX4_firstUnfit 7 = .ok (.if_icmp .ge 20, 3) := by decide +kernel
theorem dX4_firstUnfit_10 : decode cX4_firstUnfit 10 = .ok (.aload_n 0, 1) := by decide +kernel
theorem dX4_firstUnfit_11 : decode cX4_firstUnfit 11 = .ok (.iload_n 1, 1) := by decide +kernel
theorem dX4_firstUnfit_12 : decode cX4_firstUnfit 12 = .ok (.invokevirtual 92, 3) := by decide +kernel
theorem dX4_firstUnfit_15 : decode cX4_firstUnfit 15 = .ok (.iconst (-1), 1) := by decide +kernel
theorem dX4_firstUnfit_16 : decode cX4_firstUnfit 16 = .ok (.if_icmp .eq 5, 3) := by decide +kernel
theorem dX4_firstUnfit_19 : decode cX4_firstUnfit 19 = .ok (.iload_n 1, 1) := by decide +kernel
theorem dX4_firstUnfit_20 : decode cX4_firstUnfit 20 = .ok (.ireturn, 1) := by decide +kernel
theorem dX4_firstUnfit_21 : decode cX4_firstUnfit 21 = .ok (.iinc 1 1, 3) := by decide +kernel
theorem dX4_firstUnfit_24 : decode cX4_firstUnfit 24 = .ok (.goto (-22), 3) := by decide +kernel
theorem dX4_firstUnfit_27 : decode cX4_firstUnfit 27 = .ok (.iconst (-1), 1) := by decide +kernel
theorem dX4_firstUnfit_28 : decode cX4_firstUnfit 28 = .ok (.ireturn, 1) := by decide +kernel
theorem dX4_firstMissed_0 : decode cX4_firstMissed 0 = .ok (.iconst 0, 1) := by decide +kernel
theorem dX4_firstMissed_1 : decode cX4_firstMissed 1 = .ok (.istore_n 2, 1) := by decide +kernel
theorem dX4_firstMissed_2 : decode cX4_firstMissed 2 = .ok (.iload_n 2, 1) := by decide +kernel
theorem dX4_firstMissed_3 : decode cX4_firstMissed 3 = .ok (.aload_n 0, 1) := by decide +kernel
theorem dX4_firstMissed_4 : decode cX4_firstMissed 4 = .ok (.getfield 9, 3) := by decide +kernel
theorem dX4_firstMissed_7 : decode cX4_firstMissed 7 = .ok (.if_icmp .ge 33, 3) := by decide +kernel
theorem dX4_firstMissed_10 : decode cX4_firstMissed 10 = .ok (.aload_n 0, 1) := by decide +kernel
theorem dX4_firstMissed_11 : decode cX4_firstMissed 11 = .ok (.getfield 22, 3) := by decide +kernel
theorem dX4_firstMissed_14 : decode cX4_firstMissed 14 = .ok (.iload_n 2, 1) := by decide +kernel
theorem dX4_firstMissed_15 : decode cX4_firstMissed 15 = .ok (.iaload, 1) := by decide +kernel
theorem dX4_firstMissed_16 : decode cX4_firstMissed 16 = .ok (.ifCond .le 18, 3) := by decide +kernel
theorem dX4_firstMissed_19 : decode cX4_firstMissed 19 = .ok (.aload_n 1, 1) := by decide +kernel
theorem dX4_firstMissed_20 : decode cX4_firstMissed 20 = .ok (.aload_n 0, 1) := by decide +kernel
theorem dX4_firstMissed_21 : decode cX4_firstMissed 21 = .ok (.getfield 27, 3) := by decide +kernel
theorem dX4_firstMissed_24 : decode cX4_firstMissed 24 = .ok (.iload_n 2, 1) := by decide +kernel
theorem dX4_firstMissed_25 : decode cX4_firstMissed 25 = .ok (.aaload, 1) := by decide +kernel
theorem dX4_firstMissed_26 : decode cX4_firstMissed 26 = .ok (.invokestatic 85, 3) := by decide +kernel
theorem dX4_firstMissed_29 : decode cX4_firstMissed 29 = .ok (.ifCond .ne 5, 3) := by decide +kernel
theorem dX4_firstMissed_32 : decode cX4_firstMissed 32 = .ok (.iload_n 2, 1) := by decide +kernel
theorem dX4_firstMissed_33 : decode cX4_firstMissed 33 = .ok (.ireturn, 1) := by decide +kernel
theorem dX4_firstMissed_34 : decode cX4_firstMissed 34 = .ok (.iinc 2 1, 3) := by decide +kernel
theorem dX4_firstMissed_37 : decode cX4_firstMissed 37 = .ok (.goto (-35), 3) := by decide +kernel
theorem dX4_firstMissed_40 : decode cX4_firstMissed 40 = .ok (.iconst (-1), 1) := by decide +kernel
theorem dX4_firstMissed_41 : decode cX4_firstMissed 41 = .ok (.ireturn, 1) := by decide +kernel
theorem dX5_init_0 : decode cX5_init 0 = .ok (.aload_n 0, 1) := by decide +kernel
theorem dX5_init_1 : decode cX5_init 1 = .ok (.invokespecial 3, 3) := by decide +kernel
theorem dX5_init_4 : decode cX5_init 4 = .ok (.aload_n 0, 1) := by decide +kernel
theorem dX5_init_5 : decode cX5_init 5 = .ok (.iconst 4, 1) := by decide +kernel
theorem dX5_init_6 : decode cX5_init 6 = .ok (.newarray .int, 2) := by decide +kernel
theorem dX5_init_8 : decode cX5_init 8 = .ok (.putfield 9, 3) := by decide +kernel
theorem dX5_init_11 : decode cX5_init 11 = .ok (.aload_n 0, 1) := by decide +kernel
theorem dX5_init_12 : decode cX5_init 12 = .ok (.new 15, 3) := by decide +kernel
theorem dX5_init_15 : decode cX5_init 15 = .ok (.dup, 1) := by decide +kernel
theorem dX5_init_16 : decode cX5_init 16 = .ok (.invokespecial 17, 3) := by decide +kernel
theorem dX5_init_19 : decode cX5_init 19 = .ok (.putfield 18, 3) := by decide +kernel
theorem dX5_init_22 : decode cX5_init 22 = .ok (.aload_n 0, 1) := by decide +kernel
theorem dX5_init_23 : decode cX5_init 23 = .ok (.iconst 4, 1) := by decide +kernel
theorem dX5_init_24 : decode cX5_init 24 = .ok (.newarray .int, 2) := by decide +kernel
theorem dX5_init_26 : decode cX5_init 26 = .ok (.putfield 22, 3) := by decide +kernel
theorem dX5_init_29 : decode cX5_init 29 = .ok (.aload_n 0, 1) := by decide +kernel
theorem dX5_init_30 : decode cX5_init 30 = .ok (.new 15, 3) := by decide +kernel
theorem dX5_init_33 : decode cX5_init 33 = .ok (.dup, 1) := by decide +kernel
theorem dX5_init_34 : decode cX5_init 34 = .ok (.invokespecial 17, 3) := by decide +kernel
theorem dX5_init_37 : decode cX5_init 37 = .ok (.putfield 25, 3) := by decide +kernel
theorem dX5_init_40 : decode cX5_init 40 = .ok (.return_, 1) := by decide +kernel
theorem dX5_run_0 : decode cX5_run 0 = .ok (.aload_n 0, 1) := by decide +kernel
theorem dX5_run_1 : decode cX5_run 1 = .ok (.getfield 9, 3) := by decide +kernel
theorem dX5_run_4 : decode cX5_run 4 = .ok (.iconst 0, 1) := by decide +kernel
theorem dX5_run_5 : decode cX5_run 5 = .ok (.invokestatic 28, 3) := by decide +kernel
theorem dX5_run_8 : decode cX5_run 8 = .ok (.aload_n 0, 1) := by decide +kernel
theorem dX5_run_9 : decode cX5_run 9 = .ok (.getfield 18, 3) := by decide +kernel
theorem dX5_run_12 : decode cX5_run 12 = .ok (.invokevirtual 34, 3) := by decide +kernel
theorem dX5_run_15 : decode cX5_run 15 = .ok (.aload_n 1, 1) := by decide +kernel
theorem dX5_run_16 : decode cX5_run 16 = .ok (.invokevirtual 37, 3) := by decide +kernel
theorem dX5_run_19 : decode cX5_run 19 = .ok (.iconst (-1), 1) := by decide +kernel
theorem dX5_run_20 : decode cX5_run 20 = .ok (.if_icmp .eq 4, 3) := by decide +kernel
theorem dX5_run_23 : decode cX5_run 23 = .ok (.return_, 1) := by decide +kernel
theorem dX5_run_24 : decode cX5_run 24 = .ok (.aload_n 0, 1) := by decide +kernel
theorem dX5_run_25 : decode cX5_run 25 = .ok (.aload_n 1, 1) := by decide +kernel
theorem dX5_run_26 : decode cX5_run 26 = .ok (.getfield 43, 3) := by decide +kernel
theorem dX5_run_29 : decode cX5_run 29 = .ok (.iload_n 2, 1) := by decide +kernel
theorem dX5_run_30 : decode cX5_run 30 = .ok (.invokevirtual 47, 3) := by decide +kernel
theorem dX5_run_33 : decode cX5_run 33 = .ok (.istore_n 3, 1) := by decide +kernel
theorem dX5_run_34 : decode cX5_run 34 = .ok (.iconst 0, 1) := by decide +kernel
theorem dX5_run_35 : decode cX5_run 35 = .ok (.istore 4, 2) := by decide +kernel
theorem dX5_run_37 : decode cX5_run 37 = .ok (.iload 4, 2) := by decide +kernel
theorem dX5_run_39 : decode cX5_run 39 = .ok (.iload_n 3, 1) := by decide +kernel
theorem dX5_run_40 : decode cX5_run 40 = .ok (.if_icmp .ge 89, 3) := by decide +kernel
theorem dX5_run_43 : decode cX5_run 43 = .ok (.aload_n 0, 1) := by decide +kernel
theorem dX5_run_44 : decode cX5_run 44 = .ok (.getfield 25, 3) := by decide +kernel
theorem dX5_run_47 : decode cX5_run 47 = .ok (.aload_n 1, 1) := by decide +kernel
theorem dX5_run_48 : decode cX5_run 48 = .ok (.aload_n 0, 1) := by decide +kernel
theorem dX5_run_49 : decode cX5_run 49 = .ok (.getfield 22, 3) := by decide +kernel
theorem dX5_run_52 : decode cX5_run 52 = .ok (.invokevirtual 51, 3) := by decide +kernel
theorem dX5_run_55 : decode cX5_run 55 = .ok (.aload_n 0, 1) := by decide +kernel
theorem dX5_run_56 : decode cX5_run 56 = .ok (.getfield 25, 3) := by decide +kernel
theorem dX5_run_59 : decode cX5_run 59 = .ok (.getfield 55, 3) := by decide +kernel
theorem dX5_run_62 : decode cX5_run 62 = .ok (.ifCond .eq 52, 3) := by decide +kernel
theorem dX5_run_65 : decode cX5_run 65 = .ok (.aload_n 0, 1) := by decide +kernel
theorem dX5_run_66 : decode cX5_run 66 = .ok (.getfield 18, 3) := by decide +kernel
theorem dX5_run_69 : decode cX5_run 69 = .ok (.getfield 55, 3) := by decide +kernel
theorem dX5_run_72 : decode cX5_run 72 = .ok (.ifCond .eq 17, 3) := by decide +kernel
theorem dX5_run_75 : decode cX5_run 75 = .ok (.aload_n 0, 1) := by decide +kernel
theorem dX5_run_76 : decode cX5_run 76 = .ok (.getfield 25, 3) := by decide +kernel
theorem dX5_run_79 : decode cX5_run 79 = .ok (.aload_n 0, 1) := by decide +kernel
theorem dX5_run_80 : decode cX5_run 80 = .ok (.getfield 18, 3) := by decide +kernel
theorem dX5_run_83 : decode cX5_run 83 = .ok (.invokevirtual 59, 3) := by decide +kernel
theorem dX5_run_86 : decode cX5_run 86 = .ok (.ifCond .eq 28, 3) := by decide +kernel
theorem dX5_run_89 : decode cX5_run 89 = .ok (.aload_n 0, 1) := by decide +kernel
theorem dX5_run_90 : decode cX5_run 90 = .ok (.getfield 18, 3) := by decide +kernel
theorem dX5_run_93 : decode cX5_run 93 = .ok (.aload_n 0, 1) := by decide +kernel
theorem dX5_run_94 : decode cX5_run 94 = .ok (.getfield 25, 3) := by decide +kernel
theorem dX5_run_97 : decode cX5_run 97 = .ok (.invokevirtual 63, 3) := by decide +kernel
theorem dX5_run_100 : decode cX5_run 100 = .ok (.aload_n 0, 1) := by decide +kernel
theorem dX5_run_101 : decode cX5_run 101 = .ok (.getfield 22, 3) := by decide +kernel
theorem dX5_run_104 : decode cX5_run 104 = .ok (.iconst 0, 1) := by decide +kernel
theorem dX5_run_105 : decode cX5_run 105 = .ok (.aload_n 0, 1) := by decide +kernel
theorem dX5_run_106 : decode cX5_run 106 = .ok (.getfield 9, 3) := by decide +kernel
theorem dX5_run_109 : decode cX5_run 109 = .ok (.iconst 0, 1) := by decide +kernel
theorem dX5_run_110 : decode cX5_run 110 = .ok (.iconst 4, 1) := by decide +kernel
theorem dX5_run_111 : decode cX5_run 111 = .ok (.invokestatic 67, 3) := by decide +kernel
theorem dX5_run_114 : decode cX5_run 114 = .ok (.aload_n 0, 1) := by decide +kernel
theorem dX5_run_115 : decode cX5_run 115 = .ok (.aload_n 1, 1) := by decide +kernel
theorem dX5_run_116 : decode cX5_run 116 = .ok (.getfield 43, 3) := by decide +kernel
theorem dX5_run_119 : decode cX5_run 119 = .ok (.iload_n 2, 1) := by decide +kernel
theorem dX5_run_120 : decode cX5_run 120 = .ok (.invokevirtual 73, 3) := by decide +kernel
theorem dX5_run_123 : decode cX5_run 123 = .ok (.iinc 4 1, 3) := by decide +kernel
theorem dX5_run_126 : decode cX5_run 126 = .ok (.goto (-89), 3) := by decide +kernel
theorem dX5_run_129 : decode cX5_run 129 = .ok (.aload_n 0, 1) := by decide +kernel
theorem dX5_run_130 : decode cX5_run 130 = .ok (.getfield 18, 3) := by decide +kernel
theorem dX5_run_133 : decode cX5_run 133 = .ok (.invokevirtual 77, 3) := by decide +kernel
theorem dX5_run_136 : decode cX5_run 136 = .ok (.return_, 1) := by decide +kernel
theorem dX5_begins_0 : decode cX5_begins 0 = .ok (.iconst 1, 1) := by decide +kernel
theorem dX5_begins_1 : decode cX5_begins 1 = .ok (.istore_n 3, 1) := by decide +kernel
theorem dX5_begins_2 : decode cX5_begins 2 = .ok (.iconst 0, 1) := by decide +kernel
theorem dX5_begins_3 : decode cX5_begins 3 = .ok (.istore 4, 2) := by decide +kernel
theorem dX5_begins_5 : decode cX5_begins 5 = .ok (.iload 4, 2) := by decide +kernel
theorem dX5_begins_7 : decode cX5_begins 7 = .ok (.iconst 4, 1) := by decide +kernel
theorem dX5_begins_8 : decode cX5_begins 8 = .ok (.if_icmp .ge 46, 3) := by decide +kernel
theorem dX5_begins_11 : decode cX5_begins 11 = .ok (.aload_n 0, 1) := by decide +kernel
theorem dX5_begins_12 : decode cX5_begins 12 = .ok (.getfield 22, 3) := by decide +kernel
theorem dX5_begins_15 : decode cX5_begins 15 = .ok (.iload 4, 2) := by decide +kernel
theorem dX5_begins_17 : decode cX5_begins 17 = .ok (.iload 4, 2) := by decide +kernel
theorem dX5_begins_19 : decode cX5_begins 19 = .ok (.iload_n 1, 1) := by decide +kernel
theorem dX5_begins_20 : decode cX5_begins 20 = .ok (.if_icmp .ge 8, 3) := by decide +kernel
theorem dX5_begins_23 : decode cX5_begins 23 = .ok (.iload_n 2, 1) := by decide +kernel
theorem dX5_begins_24 : decode cX5_begins 24 = .ok (.ineg, 1) := by decide +kernel
theorem dX5_begins_25 : decode cX5_begins 25 = .ok (.goto 4, 3) := by decide +kernel
theorem dX5_begins_28 : decode cX5_begins 28 = .ok (.iconst 0, 1) := by decide +kernel
theorem dX5_begins_29 : decode cX5_begins 29 = .ok (.iastore, 1) := by decide +kernel
theorem dX5_begins_30 : decode cX5_begins 30 = .ok (.iload_n 3, 1) := by decide +kernel
theorem dX5_begins_31 : decode cX5_begins 31 = .ok (.iload 4, 2) := by decide +kernel
theorem dX5_begins_33 : decode cX5_begins 33 = .ok (.iload_n 1, 1) := by decide +kernel
theorem dX5_begins_34 : decode cX5_begins 34 = .ok (.if_icmp .ge 11, 3) := by decide +kernel
theorem dX5_begins_37 : decode cX5_begins 37 = .ok (.iconst 2, 1) := by decide +kernel
theorem dX5_begins_38 : decode cX5_begins 38 = .ok (.iload_n 2, 1) := by decide +kernel
theorem dX5_begins_39 : decode cX5_begins 39 = .ok (.imul, 1) := by decide +kernel
theorem dX5_begins_40 : decode cX5_begins 40 = .ok (.iconst 1, 1) := by decide +kernel
theorem dX5_begins_41 : decode cX5_begins 41 = .ok (.iadd, 1) := by decide +kernel
theorem dX5_begins_42 : decode cX5_begins 42 = .ok (.goto 4, 3) := by decide +kernel
theorem dX5_begins_45 : decode cX5_begins 45 = .ok (.iconst 1, 1) := by decide +kernel
theorem dX5_begins_46 : decode cX5_begins 46 = .ok (.imul, 1) := by decide +kernel
theorem dX5_begins_47 : decode cX5_begins 47 = .ok (.istore_n 3, 1) := by decide +kernel
theorem dX5_begins_48 : decode cX5_begins 48 = .ok (.iinc 4 1, 3) := by decide +kernel
theorem dX5_begins_51 : decode cX5_begins 51 = .ok (.goto (-46), 3) := by decide +kernel
theorem dX5_begins_54 : decode cX5_begins 54 = .ok (.iload_n 3, 1) := by decide +kernel
theorem dX5_begins_55 : decode cX5_begins 55 = .ok (.ireturn, 1) := by decide +kernel
theorem dX5_goOn_0 : decode cX5_goOn 0 = .ok (.iload_n 1, 1) := by decide +kernel
theorem dX5_goOn_1 : decode cX5_goOn 1 = .ok (.iconst 1, 1) := by decide +kernel
theorem dX5_goOn_2 : decode cX5_goOn 2 = .ok (.isub, 1) := by decide +kernel
theorem dX5_goOn_3 : decode cX5_goOn 3 = .ok (.istore_n 3, 1) := by decide +kernel
theorem dX5_goOn_4 : decode cX5_goOn 4 = .ok (.iload_n 3, 1) := by decide +kernel
theorem dX5_goOn_5 : decode cX5_goOn 5 = .ok (.ifCond .lt 38, 3) := by decide +kernel
theorem dX5_goOn_8 : decode cX5_goOn 8 = .ok (.aload_n 0, 1) := by decide +kernel
theorem dX5_goOn_9 : decode cX5_goOn 9 = .ok (.getfield 22, 3) := by decide +kernel
theorem dX5_goOn_12 : decode cX5_goOn 12 = .ok (.iload_n 3, 1) := by decide +kernel
theorem dX5_goOn_13 : decode cX5_goOn 13 = .ok (.iaload, 1) := by decide +kernel
theorem dX5_goOn_14 : decode cX5_goOn 14 = .ok (.iload_n 2, 1) := by decide +kernel
theorem dX5_goOn_15 : decode cX5_goOn 15 = .ok (.if_icmp .ge 14, 3) := by decide +kernel
theorem dX5_goOn_18 : decode cX5_goOn 18 = .ok (.aload_n 0, 1) := by decide +kernel
theorem dX5_goOn_19 : decode cX5_goOn 19 = .ok (.getfield 22, 3) := by decide +kernel
theorem dX5_goOn_22 : decode cX5_goOn 22 = .ok (.iload_n 3, 1) := by decide +kernel
theorem dX5_goOn_23 : decode cX5_goOn 23 = .ok (.dup2, 1) := by decide +kernel
theorem dX5_goOn_24 : decode cX5_goOn 24 = .ok (.iaload, 1) := by decide +kernel
theorem dX5_goOn_25 : decode cX5_goOn 25 = .ok (.iconst 1, 1) := by decide +kernel
theorem dX5_goOn_26 : decode cX5_goOn 26 = .ok (.iadd, 1) := by decide +kernel
theorem dX5_goOn_27 : decode cX5_goOn 27 = .ok (.iastore, 1) := by decide +kernel
theorem dX5_goOn_28 : decode cX5_goOn 28 = .ok (.return_, 1) := by decide +kernel
theorem dX5_goOn_29 : decode cX5_goOn 29 = .ok (.aload_n 0, 1) := by decide +kernel
theorem dX5_goOn_30 : decode cX5_goOn 30 = .ok (.getfield 22, 3) := by decide +kernel
theorem dX5_goOn_33 : decode cX5_goOn 33 = .ok (.iload_n 3, 1) := by decide +kernel
theorem dX5_goOn_34 : decode cX5_goOn 34 = .ok (.iload_n 2, 1) := by decide +kernel
theorem dX5_goOn_35 : decode cX5_goOn 35 = .ok (.ineg, 1) := by decide +kernel
theorem dX5_goOn_36 : decode cX5_goOn 36 = .ok (.iastore, 1) := by decide +kernel
theorem dX5_goOn_37 : decode cX5_goOn 37 = .ok (.iinc 3 (-1), 3) := by decide +kernel
theorem dX5_goOn_40 : decode cX5_goOn 40 = .ok (.goto (-36), 3) := by decide +kernel
theorem dX5_goOn_43 : decode cX5_goOn 43 = .ok (.return_, 1) := by decide +kernel
theorem dX5_answer_0 : decode cX5_answer 0 = .ok (.iload_n 1, 1) := by decide +kernel
theorem dX5_answer_1 : decode cX5_answer 1 = .ok (.bipush 10, 2) := by decide +kernel
theorem dX5_answer_3 : decode cX5_answer 3 = .ok (.if_icmp .ge 14, 3) := by decide +kernel
theorem dX5_answer_6 : decode cX5_answer 6 = .ok (.aload_n 0, 1) := by decide +kernel
theorem dX5_answer_7 : decode cX5_answer 7 = .ok (.getfield 18, 3) := by decide +kernel
theorem dX5_answer_10 : decode cX5_answer 10 = .ok (.iload_n 1, 1) := by decide +kernel
theorem dX5_answer_11 : decode cX5_answer 11 = .ok (.invokevirtual 80, 3) := by decide +kernel
theorem dX5_answer_14 : decode cX5_answer 14 = .ok (.goto 13, 3) := by decide +kernel
theorem dX5_answer_17 : decode cX5_answer 17 = .ok (.aload_n 0, 1) := by decide +kernel
theorem dX5_answer_18 : decode cX5_answer 18 = .ok (.getfield 9, 3) := by decide +kernel
theorem dX5_answer_21 : decode cX5_answer 21 = .ok (.iload_n 1, 1) := by decide +kernel
theorem dX5_answer_22 : decode cX5_answer 22 = .ok (.bipush 10, 2) := by decide +kernel
theorem dX5_answer_24 : decode cX5_answer 24 = .ok (.isub, 1) := by decide +kernel
theorem dX5_answer_25 : decode cX5_answer 25 = .ok (.iaload, 1) := by decide +kernel
theorem dX5_answer_26 : decode cX5_answer 26 = .ok (.i2l, 1) := by decide +kernel
theorem dX5_answer_27 : decode cX5_answer 27 = .ok (.lreturn, 1) := by decide +kernel
theorem dX6_init_0 : decode cX6_init 0 = .ok (.aload_n 0, 1) := by decide +kernel
theorem dX6_init_1 : decode cX6_init 1 = .ok (.invokespecial 3, 3) := by decide +kernel
theorem dX6_init_4 : decode cX6_init 4 = .ok (.aload_n 0, 1) := by decide +kernel
theorem dX6_init_5 : decode cX6_init 5 = .ok (.bipush 6, 2) := by decide +kernel
theorem dX6_init_7 : decode cX6_init 7 = .ok (.anewarray 9, 3) := by decide +kernel
theorem dX6_init_10 : decode cX6_init 10 = .ok (.putfield 11, 3) := by decide +kernel
theorem dX6_init_13 : decode cX6_init 13 = .ok (.aload_n 0, 1) := by decide +kernel
theorem dX6_init_14 : decode cX6_init 14 = .ok (.bipush 6, 2) := by decide +kernel
theorem dX6_init_16 : decode cX6_init 16 = .ok (.newarray .int, 2) := by decide +kernel
theorem dX6_init_18 : decode cX6_init 18 = .ok (.putfield 17, 3) := by decide +kernel
theorem dX6_init_21 : decode cX6_init 21 = .ok (.aload_n 0, 1) := by decide +kernel
theorem dX6_init_22 : decode cX6_init 22 = .ok (.iconst 0, 1) := by decide +kernel
theorem dX6_init_23 : decode cX6_init 23 = .ok (.putfield 21, 3) := by decide +kernel
theorem dX6_init_26 : decode cX6_init 26 = .ok (.aload_n 0, 1) := by decide +kernel
theorem dX6_init_27 : decode cX6_init 27 = .ok (.iconst 0, 1) := by decide +kernel
theorem dX6_init_28 : decode cX6_init 28 = .ok (.putfield 25, 3) := by decide +kernel
theorem dX6_init_31 : decode cX6_init 31 = .ok (.iconst 0, 1) := by decide +kernel
theorem dX6_init_32 : decode cX6_init 32 = .ok (.istore_n 1, 1) := by decide +kernel
theorem dX6_init_33 : decode cX6_init 33 = .ok (.iload_n 1, 1) := by decide +kernel
theorem dX6_init_34 : decode cX6_init 34 = .ok (.bipush 6, 2) := by decide +kernel
theorem dX6_init_36 : decode cX6_init 36 = .ok (.if_icmp .ge 22, 3) := by decide +kernel
theorem dX6_init_39 : decode cX6_init 39 = .ok (.aload_n 0, 1) := by decide +kernel
theorem dX6_init_40 : decode cX6_init 40 = .ok (.getfield 11, 3) := by decide +kernel
theorem dX6_init_43 : decode cX6_init 43 = .ok (.iload_n 1, 1) := by decide +kernel
theorem dX6_init_44 : decode cX6_init 44 = .ok (.new 9, 3) := by decide +kernel
theorem dX6_init_47 : decode cX6_init 47 = .ok (.dup, 1) := by decide +kernel
theorem dX6_init_48 : decode cX6_init 48 = .ok (.invokespecial 28, 3) := by decide +kernel
theorem dX6_init_51 : decode cX6_init 51 = .ok (.aastore, 1) := by decide +kernel
theorem dX6_init_52 : decode cX6_init 52 = .ok (.iinc 1 1, 3) := by decide +kernel
theorem dX6_init_55 : decode cX6_init 55 = .ok (.goto (-22), 3) := by decide +kernel
theorem dX6_init_58 : decode cX6_init 58 = .ok (.return_, 1) := by decide +kernel
theorem dX6_save_0 : decode cX6_save 0 = .ok (.aload_n 0, 1) := by decide +kernel
theorem dX6_save_1 : decode cX6_save 1 = .ok (.aload_n 0, 1) := by decide +kernel
theorem dX6_save_2 : decode cX6_save 2 = .ok (.getfield 21, 3) := by decide +kernel
theorem dX6_save_5 : decode cX6_save 5 = .ok (.iconst 1, 1) := by decide +kernel
theorem dX6_save_6 : decode cX6_save 6 = .ok (.iadd, 1) := by decide +kernel
theorem dX6_save_7 : decode cX6_save 7 = .ok (.bipush 6, 2) := by decide +kernel
theorem dX6_save_9 : decode cX6_save 9 = .ok (.if_icmp .ge 12, 3) := by decide +kernel
theorem dX6_save_12 : decode cX6_save 12 = .ok (.aload_n 0, 1) := by decide +kernel
theorem dX6_save_13 : decode cX6_save 13 = .ok (.getfield 21, 3) := by decide +kernel
theorem dX6_save_16 : decode cX6_save 16 = .ok (.iconst 1, 1) := by decide +kernel
theorem dX6_save_17 : decode cX6_save 17 = .ok (.iadd, 1) := by decide +kernel
theorem dX6_save_18 : decode cX6_save 18 = .ok (.goto 4, 3) := by decide +kernel
theorem dX6_save_21 : decode cX6_save 21 = .ok (.iconst 0, 1) := by decide +kernel
theorem dX6_save_22 : decode cX6_save 22 = .ok (.putfield 21, 3) := by decide +kernel
theorem dX6_save_25 : decode cX6_save 25 = .ok (.aload_n 0, 1) := by decide +kernel
theorem dX6_save_26 : decode cX6_save 26 = .ok (.getfield 11, 3) := by decide +kernel
theorem dX6_save_29 : decode cX6_save 29 = .ok (.aload_n 0, 1) := by decide +kernel
theorem dX6_save_30 : decode cX6_save 30 = .ok (.getfield 21, 3) := by decide +kernel
theorem dX6_save_33 : decode cX6_save 33 = .ok (.aaload, 1) := by decide +kernel
theorem dX6_save_34 : decode cX6_save 34 = .ok (.aload_n 1, 1) := by decide +kernel
theorem dX6_save_35 : decode cX6_save 35 = .ok (.invokevirtual 29, 3) := by decide +kernel
theorem dX6_save_38 : decode cX6_save 38 = .ok (.aload_n 0, 1) := by decide +kernel
theorem dX6_save_39 : decode cX6_save 39 = .ok (.getfield 17, 3) := by decide +kernel
theorem dX6_save_42 : decode cX6_save 42 = .ok (.aload_n 0, 1) := by decide +kernel
theorem dX6_save_43 : decode cX6_save 43 = .ok (.getfield 21, 3) := by decide +kernel
theorem dX6_save_46 : decode cX6_save 46 = .ok (.iload_n 2, 1) := by decide +kernel
theorem dX6_save_47 : decode cX6_save 47 = .ok (.iastore, 1) := by decide +kernel
theorem dX6_save_48 : decode cX6_save 48 = .ok (.aload_n 0, 1) := by decide +kernel
theorem dX6_save_49 : decode cX6_save 49 = .ok (.aload_n 0, 1) := by decide +kernel
theorem dX6_save_50 : decode cX6_save 50 = .ok (.getfield 25, 3) := by decide +kernel
theorem dX6_save_53 : decode cX6_save 53 = .ok (.iconst 1, 1) := by decide +kernel
theorem dX6_save_54 : decode cX6_save 54 = .ok (.iadd, 1) := by decide +kernel
theorem dX6_save_55 : decode cX6_save 55 = .ok (.bipush 6, 2) := by decide +kernel
theorem dX6_save_57 : decode cX6_save 57 = .ok (.invokestatic 33, 3) := by decide +kernel
theorem dX6_save_60 : decode cX6_save 60 = .ok (.putfield 25, 3) := by decide +kernel
theorem dX6_save_63 : decode cX6_save 63 = .ok (.return_, 1) := by decide +kernel
theorem dX6_latestGraph_0 : decode cX6_latestGraph 0 = .ok (.aload_n 0, 1) := by decide +kernel
theorem dX6_latestGraph_1 : decode cX6_latestGraph 1 = .ok (.getfield 11, 3) := by decide +kernel
theorem dX6_latestGraph_4 : decode cX6_latestGraph 4 = .ok (.aload_n 0, 1) := by decide +kernel
theorem dX6_latestGraph_5 : decode cX6_latestGraph 5 = .ok (.getfield 21, 3) := by decide +kernel
theorem dX6_latestGraph_8 : decode cX6_latestGraph 8 = .ok (.aaload, 1) := by decide +kernel
theorem dX6_latestGraph_9 : decode cX6_latestGraph 9 = .ok (.areturn, 1) := by decide +kernel
theorem dX6_latestProducts_0 : decode cX6_latestProducts 0 = .ok (.aload_n 0, 1) := by decide +kernel
theorem dX6_latestProducts_1 : decode cX6_latestProducts 1 = .ok (.getfield 17, 3) := by decide +kernel
theorem dX6_latestProducts_4 : decode cX6_latestProducts 4 = .ok (.aload_n 0, 1) := by decide +kernel
theorem dX6_latestProducts_5 : decode cX6_latestProducts 5 = .ok (.getfield 21, 3) := by decide +kernel
theorem dX6_latestProducts_8 : decode cX6_latestProducts 8 = .ok (.iaload, 1) := by decide +kernel
theorem dX6_latestProducts_9 : decode cX6_latestProducts 9 = .ok (.ireturn, 1) := by decide +kernel
theorem dX6_dropLatest_0 : decode cX6_dropLatest 0 = .ok (.aload_n 0, 1) := by decide +kernel
theorem dX6_dropLatest_1 : decode cX6_dropLatest 1 = .ok (.aload_n 0, 1) := by decide +kernel
theorem dX6_dropLatest_2 : decode cX6_dropLatest 2 = .ok (.getfield 21, 3) := by decide +kernel
theorem dX6_dropLatest_5 : decode cX6_dropLatest 5 = .ok (.ifCond .le 12, 3) := by decide +kernel
theorem dX6_dropLatest_8 : decode cX6_dropLatest 8 = .ok (.aload_n 0, 1) := by decide +kernel
theorem dX6_dropLatest_9 : decode cX6_dropLatest 9 = .ok (.getfield 21, 3) := by decide +kernel
theorem dX6_dropLatest_12 : decode cX6_dropLatest 12 = .ok (.iconst 1, 1) := by decide +kernel
theorem dX6_dropLatest_13 : decode cX6_dropLatest 13 = .ok (.isub, 1) := by decide +kernel
theorem dX6_dropLatest_14 : decode cX6_dropLatest 14 = .ok (.goto 4, 3) := by decide +kernel
theorem dX6_dropLatest_17 : decode cX6_dropLatest 17 = .ok (.iconst 5, 1) := by decide +kernel
theorem dX6_dropLatest_18 : decode cX6_dropLatest 18 = .ok (.putfield 21, 3) := by decide +kernel
theorem dX6_dropLatest_21 : decode cX6_dropLatest 21 = .ok (.aload_n 0, 1) := by decide +kernel
theorem dX6_dropLatest_22 : decode cX6_dropLatest 22 = .ok (.dup, 1) := by decide +kernel
theorem dX6_dropLatest_23 : decode cX6_dropLatest 23 = .ok (.getfield 25, 3) := by decide +kernel
