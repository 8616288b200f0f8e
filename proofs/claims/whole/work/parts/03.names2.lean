theorem dX6_dropLatest_26 : decode cX6_dropLatest 26 = .ok (.iconst 1, 1) := by decide +kernel
theorem dX6_dropLatest_27 : decode cX6_dropLatest 27 = .ok (.isub, 1) := by decide +kernel
theorem dX6_dropLatest_28 : decode cX6_dropLatest 28 = .ok (.putfield 25, 3) := by decide +kernel
theorem dX6_dropLatest_31 : decode cX6_dropLatest 31 = .ok (.return_, 1) := by decide +kernel
theorem dX7_init_0 : decode cX7_init 0 = .ok (.aload_n 0, 1) := by decide +kernel
theorem dX7_init_1 : decode cX7_init 1 = .ok (.invokespecial 3, 3) := by decide +kernel
theorem dX7_init_4 : decode cX7_init 4 = .ok (.aload_n 0, 1) := by decide +kernel
theorem dX7_init_5 : decode cX7_init 5 = .ok (.new 9, 3) := by decide +kernel
theorem dX7_init_8 : decode cX7_init 8 = .ok (.dup, 1) := by decide +kernel
theorem dX7_init_9 : decode cX7_init 9 = .ok (.invokespecial 11, 3) := by decide +kernel
theorem dX7_init_12 : decode cX7_init 12 = .ok (.putfield 12, 3) := by decide +kernel
theorem dX7_init_15 : decode cX7_init 15 = .ok (.aload_n 0, 1) := by decide +kernel
theorem dX7_init_16 : decode cX7_init 16 = .ok (.iconst 2, 1) := by decide +kernel
theorem dX7_init_17 : decode cX7_init 17 = .ok (.anewarray 9, 3) := by decide +kernel
theorem dX7_init_20 : decode cX7_init 20 = .ok (.putfield 16, 3) := by decide +kernel
theorem dX7_init_23 : decode cX7_init 23 = .ok (.aload_n 0, 1) := by decide +kernel
theorem dX7_init_24 : decode cX7_init 24 = .ok (.iconst 2, 1) := by decide +kernel
theorem dX7_init_25 : decode cX7_init 25 = .ok (.newarray .boolean, 2) := by decide +kernel
theorem dX7_init_27 : decode cX7_init 27 = .ok (.putfield 20, 3) := by decide +kernel
theorem dX7_init_30 : decode cX7_init 30 = .ok (.aload_n 0, 1) := by decide +kernel
theorem dX7_init_31 : decode cX7_init 31 = .ok (.new 24, 3) := by decide +kernel
theorem dX7_init_34 : decode cX7_init 34 = .ok (.dup, 1) := by decide +kernel
theorem dX7_init_35 : decode cX7_init 35 = .ok (.invokespecial 26, 3) := by decide +kernel
theorem dX7_init_38 : decode cX7_init 38 = .ok (.putfield 27, 3) := by decide +kernel
theorem dX7_init_41 : decode cX7_init 41 = .ok (.aload_n 0, 1) := by decide +kernel
theorem dX7_init_42 : decode cX7_init 42 = .ok (.new 31, 3) := by decide +kernel
theorem dX7_init_45 : decode cX7_init 45 = .ok (.dup, 1) := by decide +kernel
theorem dX7_init_46 : decode cX7_init 46 = .ok (.invokespecial 33, 3) := by decide +kernel
theorem dX7_init_49 : decode cX7_init 49 = .ok (.putfield 34, 3) := by decide +kernel
theorem dX7_init_52 : decode cX7_init 52 = .ok (.aload_n 0, 1) := by decide +kernel
theorem dX7_init_53 : decode cX7_init 53 = .ok (.new 38, 3) := by decide +kernel
theorem dX7_init_56 : decode cX7_init 56 = .ok (.dup, 1) := by decide +kernel
theorem dX7_init_57 : decode cX7_init 57 = .ok (.invokespecial 40, 3) := by decide +kernel
theorem dX7_init_60 : decode cX7_init 60 = .ok (.putfield 41, 3) := by decide +kernel
theorem dX7_init_63 : decode cX7_init 63 = .ok (.aload_n 0, 1) := by decide +kernel
theorem dX7_init_64 : decode cX7_init 64 = .ok (.new 45, 3) := by decide +kernel
theorem dX7_init_67 : decode cX7_init 67 = .ok (.dup, 1) := by decide +kernel
theorem dX7_init_68 : decode cX7_init 68 = .ok (.invokespecial 47, 3) := by decide +kernel
theorem dX7_init_71 : decode cX7_init 71 = .ok (.putfield 48, 3) := by decide +kernel
theorem dX7_init_74 : decode cX7_init 74 = .ok (.aload_n 0, 1) := by decide +kernel
theorem dX7_init_75 : decode cX7_init 75 = .ok (.new 52, 3) := by decide +kernel
theorem dX7_init_78 : decode cX7_init 78 = .ok (.dup, 1) := by decide +kernel
theorem dX7_init_79 : decode cX7_init 79 = .ok (.invokespecial 54, 3) := by decide +kernel
theorem dX7_init_82 : decode cX7_init 82 = .ok (.putfield 55, 3) := by decide +kernel
theorem dX7_init_85 : decode cX7_init 85 = .ok (.aload_n 0, 1) := by decide +kernel
theorem dX7_init_86 : decode cX7_init 86 = .ok (.new 59, 3) := by decide +kernel
theorem dX7_init_89 : decode cX7_init 89 = .ok (.dup, 1) := by decide +kernel
theorem dX7_init_90 : decode cX7_init 90 = .ok (.invokespecial 61, 3) := by decide +kernel
theorem dX7_init_93 : decode cX7_init 93 = .ok (.putfield 62, 3) := by decide +kernel
theorem dX7_init_96 : decode cX7_init 96 = .ok (.aload_n 0, 1) := by decide +kernel
theorem dX7_init_97 : decode cX7_init 97 = .ok (.iconst 0, 1) := by decide +kernel
theorem dX7_init_98 : decode cX7_init 98 = .ok (.putfield 66, 3) := by decide +kernel
theorem dX7_init_101 : decode cX7_init 101 = .ok (.iconst 0, 1) := by decide +kernel
theorem dX7_init_102 : decode cX7_init 102 = .ok (.istore_n 1, 1) := by decide +kernel
theorem dX7_init_103 : decode cX7_init 103 = .ok (.iload_n 1, 1) := by decide +kernel
theorem dX7_init_104 : decode cX7_init 104 = .ok (.iconst 2, 1) := by decide +kernel
theorem dX7_init_105 : decode cX7_init 105 = .ok (.if_icmp .ge 22, 3) := by decide +kernel
theorem dX7_init_108 : decode cX7_init 108 = .ok (.aload_n 0, 1) := by decide +kernel
theorem dX7_init_109 : decode cX7_init 109 = .ok (.getfield 16, 3) := by decide +kernel
theorem dX7_init_112 : decode cX7_init 112 = .ok (.iload_n 1, 1) := by decide +kernel
theorem dX7_init_113 : decode cX7_init 113 = .ok (.new 9, 3) := by decide +kernel
theorem dX7_init_116 : decode cX7_init 116 = .ok (.dup, 1) := by decide +kernel
theorem dX7_init_117 : decode cX7_init 117 = .ok (.invokespecial 11, 3) := by decide +kernel
theorem dX7_init_120 : decode cX7_init 120 = .ok (.aastore, 1) := by decide +kernel
theorem dX7_init_121 : decode cX7_init 121 = .ok (.iinc 1 1, 3) := by decide +kernel
theorem dX7_init_124 : decode cX7_init 124 = .ok (.goto (-21), 3) := by decide +kernel
theorem dX7_init_127 : decode cX7_init 127 = .ok (.return_, 1) := by decide +kernel
theorem dX7_begin_0 : decode cX7_begin 0 = .ok (.iload_n 1, 1) := by decide +kernel
theorem dX7_begin_1 : decode cX7_begin 1 = .ok (.iconst 1, 1) := by decide +kernel
theorem dX7_begin_2 : decode cX7_begin 2 = .ok (.if_icmp .lt 19, 3) := by decide +kernel
theorem dX7_begin_5 : decode cX7_begin 5 = .ok (.iload_n 1, 1) := by decide +kernel
theorem dX7_begin_6 : decode cX7_begin 6 = .ok (.bipush 8, 2) := by decide +kernel
theorem dX7_begin_8 : decode cX7_begin 8 = .ok (.if_icmp .gt 13, 3) := by decide +kernel
theorem dX7_begin_11 : decode cX7_begin 11 = .ok (.iload_n 2, 1) := by decide +kernel
theorem dX7_begin_12 : decode cX7_begin 12 = .ok (.iconst 1, 1) := by decide +kernel
theorem dX7_begin_13 : decode cX7_begin 13 = .ok (.if_icmp .lt 8, 3) := by decide +kernel
theorem dX7_begin_16 : decode cX7_begin 16 = .ok (.iload_n 2, 1) := by decide +kernel
theorem dX7_begin_17 : decode cX7_begin 17 = .ok (.iconst 4, 1) := by decide +kernel
theorem dX7_begin_18 : decode cX7_begin 18 = .ok (.if_icmp .le 13, 3) := by decide +kernel
theorem dX7_begin_21 : decode cX7_begin 21 = .ok (.new 70, 3) := by decide +kernel
theorem dX7_begin_24 : decode cX7_begin 24 = .ok (.dup, 1) := by decide +kernel
theorem dX7_begin_25 : decode cX7_begin 25 = .ok (.ldc 72, 2) := by decide +kernel
theorem dX7_begin_27 : decode cX7_begin 27 = .ok (.invokespecial 74, 3) := by decide +kernel
theorem dX7_begin_30 : decode cX7_begin 30 = .ok (.athrow, 1) := by decide +kernel
theorem dX7_begin_31 : decode cX7_begin 31 = .ok (.aload_n 0, 1) := by decide +kernel
theorem dX7_begin_32 : decode cX7_begin 32 = .ok (.getfield 12, 3) := by decide +kernel
theorem dX7_begin_35 : decode cX7_begin 35 = .ok (.getfield 77, 3) := by decide +kernel
theorem dX7_begin_38 : decode cX7_begin 38 = .ok (.istore_n 3, 1) := by decide +kernel
theorem dX7_begin_39 : decode cX7_begin 39 = .ok (.aload_n 0, 1) := by decide +kernel
theorem dX7_begin_40 : decode cX7_begin 40 = .ok (.invokevirtual 80, 3) := by decide +kernel
theorem dX7_begin_43 : decode cX7_begin 43 = .ok (.aload_n 0, 1) := by decide +kernel
theorem dX7_begin_44 : decode cX7_begin 44 = .ok (.getfield 12, 3) := by decide +kernel
theorem dX7_begin_47 : decode cX7_begin 47 = .ok (.iload_n 1, 1) := by decide +kernel
theorem dX7_begin_48 : decode cX7_begin 48 = .ok (.iload_n 2, 1) := by decide +kernel
theorem dX7_begin_49 : decode cX7_begin 49 = .ok (.invokevirtual 83, 3) := by decide +kernel
theorem dX7_begin_52 : decode cX7_begin 52 = .ok (.iload_n 3, 1) := by decide +kernel
theorem dX7_begin_53 : decode cX7_begin 53 = .ok (.ireturn, 1) := by decide +kernel
theorem dX7_join_0 : decode cX7_join 0 = .ok (.aload_n 0, 1) := by decide +kernel
theorem dX7_join_1 : decode cX7_join 1 = .ok (.iload_n 1, 1) := by decide +kernel
theorem dX7_join_2 : decode cX7_join 2 = .ok (.invokevirtual 87, 3) := by decide +kernel
theorem dX7_join_5 : decode cX7_join 5 = .ok (.aload_n 0, 1) := by decide +kernel
theorem dX7_join_6 : decode cX7_join 6 = .ok (.iload_n 2, 1) := by decide +kernel
theorem dX7_join_7 : decode cX7_join 7 = .ok (.invokevirtual 87, 3) := by decide +kernel
theorem dX7_join_10 : decode cX7_join 10 = .ok (.iload_n 1, 1) := by decide +kernel
theorem dX7_join_11 : decode cX7_join 11 = .ok (.iload_n 2, 1) := by decide +kernel
theorem dX7_join_12 : decode cX7_join 12 = .ok (.if_icmp .ne 13, 3) := by decide +kernel
theorem dX7_join_15 : decode cX7_join 15 = .ok (.new 70, 3) := by decide +kernel
theorem dX7_join_18 : decode cX7_join 18 = .ok (.dup, 1) := by decide +kernel
theorem dX7_join_19 : decode cX7_join 19 = .ok (.ldc 91, 2) := by decide +kernel
theorem dX7_join_21 : decode cX7_join 21 = .ok (.invokespecial 74, 3) := by decide +kernel
theorem dX7_join_24 : decode cX7_join 24 = .ok (.athrow, 1) := by decide +kernel
theorem dX7_join_25 : decode cX7_join 25 = .ok (.aload_n 0, 1) := by decide +kernel
theorem dX7_join_26 : decode cX7_join 26 = .ok (.invokevirtual 80, 3) := by decide +kernel
theorem dX7_join_29 : decode cX7_join 29 = .ok (.aload_n 0, 1) := by decide +kernel
theorem dX7_join_30 : decode cX7_join 30 = .ok (.getfield 12, 3) := by decide +kernel
theorem dX7_join_33 : decode cX7_join 33 = .ok (.iload_n 1, 1) := by decide +kernel
theorem dX7_join_34 : decode cX7_join 34 = .ok (.iload_n 2, 1) := by decide +kernel
theorem dX7_join_35 : decode cX7_join 35 = .ok (.iload_n 3, 1) := by decide +kernel
theorem dX7_join_36 : decode cX7_join 36 = .ok (.invokevirtual 93, 3) := by decide +kernel
theorem dX7_join_39 : decode cX7_join 39 = .ok (.aload_n 0, 1) := by decide +kernel
theorem dX7_join_40 : decode cX7_join 40 = .ok (.getfield 12, 3) := by decide +kernel
theorem dX7_join_43 : decode cX7_join 43 = .ok (.invokevirtual 97, 3) := by decide +kernel
theorem dX7_join_46 : decode cX7_join 46 = .ok (.ireturn, 1) := by decide +kernel
theorem dX7_weigh_0 : decode cX7_weigh 0 = .ok (.aload_n 0, 1) := by decide +kernel
theorem dX7_weigh_1 : decode cX7_weigh 1 = .ok (.iload_n 1, 1) := by decide +kernel
theorem dX7_weigh_2 : decode cX7_weigh 2 = .ok (.invokevirtual 87, 3) := by decide +kernel
theorem dX7_weigh_5 : decode cX7_weigh 5 = .ok (.iload_n 2, 1) := by decide +kernel
theorem dX7_weigh_6 : decode cX7_weigh 6 = .ok (.ifCond .lt 9, 3) := by decide +kernel
theorem dX7_weigh_9 : decode cX7_weigh 9 = .ok (.iload_n 2, 1) := by decide +kernel
theorem dX7_weigh_10 : decode cX7_weigh 10 = .ok (.bipush 9, 2) := by decide +kernel
theorem dX7_weigh_12 : decode cX7_weigh 12 = .ok (.if_icmp .le 13, 3) := by decide +kernel
theorem dX7_weigh_15 : decode cX7_weigh 15 = .ok (.new 70, 3) := by decide +kernel
theorem dX7_weigh_18 : decode cX7_weigh 18 = .ok (.dup, 1) := by decide +kernel
theorem dX7_weigh_19 : decode cX7_weigh 19 = .ok (.ldc 101, 2) := by decide +kernel
theorem dX7_weigh_21 : decode cX7_weigh 21 = .ok (.invokespecial 74, 3) := by decide +kernel
theorem dX7_weigh_24 : decode cX7_weigh 24 = .ok (.athrow, 1) := by decide +kernel
theorem dX7_weigh_25 : decode cX7_weigh 25 = .ok (.aload_n 0, 1) := by decide +kernel
theorem dX7_weigh_26 : decode cX7_weigh 26 = .ok (.getfield 12, 3) := by decide +kernel
theorem dX7_weigh_29 : decode cX7_weigh 29 = .ok (.getfield 103, 3) := by decide +kernel
theorem dX7_weigh_32 : decode cX7_weigh 32 = .ok (.iload_n 1, 1) := by decide +kernel
theorem dX7_weigh_33 : decode cX7_weigh 33 = .ok (.iaload, 1) := by decide +kernel
theorem dX7_weigh_34 : decode cX7_weigh 34 = .ok (.istore_n 3, 1) := by decide +kernel
theorem dX7_weigh_35 : decode cX7_weigh 35 = .ok (.aload_n 0, 1) := by decide +kernel
theorem dX7_weigh_36 : decode cX7_weigh 36 = .ok (.invokevirtual 80, 3) := by decide +kernel
theorem dX7_weigh_39 : decode cX7_weigh 39 = .ok (.aload_n 0, 1) := by decide +kernel
theorem dX7_weigh_40 : decode cX7_weigh 40 = .ok (.getfield 12, 3) := by decide +kernel
theorem dX7_weigh_43 : decode cX7_weigh 43 = .ok (.getfield 103, 3) := by decide +kernel
theorem dX7_weigh_46 : decode cX7_weigh 46 = .ok (.iload_n 1, 1) := by decide +kernel
theorem dX7_weigh_47 : decode cX7_weigh 47 = .ok (.iload_n 2, 1) := by decide +kernel
theorem dX7_weigh_48 : decode cX7_weigh 48 = .ok (.iastore, 1) := by decide +kernel
theorem dX7_weigh_49 : decode cX7_weigh 49 = .ok (.iload_n 3, 1) := by decide +kernel
theorem dX7_weigh_50 : decode cX7_weigh 50 = .ok (.ireturn, 1) := by decide +kernel
theorem dX7_complement_0 : decode cX7_complement 0 = .ok (.aload_n 0, 1) := by decide +kernel
theorem dX7_complement_1 : decode cX7_complement 1 = .ok (.invokevirtual 80, 3) := by decide +kernel
theorem dX7_complement_4 : decode cX7_complement 4 = .ok (.aload_n 0, 1) := by decide +kernel
theorem dX7_complement_5 : decode cX7_complement 5 = .ok (.getfield 12, 3) := by decide +kernel
theorem dX7_complement_8 : decode cX7_complement 8 = .ok (.invokevirtual 107, 3) := by decide +kernel
theorem dX7_complement_11 : decode cX7_complement 11 = .ok (.aload_n 0, 1) := by decide +kernel
theorem dX7_complement_12 : decode cX7_complement 12 = .ok (.getfield 12, 3) := by decide +kernel
theorem dX7_complement_15 : decode cX7_complement 15 = .ok (.invokevirtual 97, 3) := by decide +kernel
theorem dX7_complement_18 : decode cX7_complement 18 = .ok (.ireturn, 1) := by decide +kernel
theorem dX7_remove_0 : decode cX7_remove 0 = .ok (.aload_n 0, 1) := by decide +kernel
theorem dX7_remove_1 : decode cX7_remove 1 = .ok (.iload_n 1, 1) := by decide +kernel
theorem dX7_remove_2 : decode cX7_remove 2 = .ok (.invokevirtual 87, 3) := by decide +kernel
theorem dX7_remove_5 : decode cX7_remove 5 = .ok (.aload_n 0, 1) := by decide +kernel
theorem dX7_remove_6 : decode cX7_remove 6 = .ok (.getfield 12, 3) := by decide +kernel
theorem dX7_remove_9 : decode cX7_remove 9 = .ok (.getfield 77, 3) := by decide +kernel
theorem dX7_remove_12 : decode cX7_remove 12 = .ok (.iconst 1, 1) := by decide +kernel
theorem dX7_remove_13 : decode cX7_remove 13 = .ok (.if_icmp .ne 13, 3) := by decide +kernel
theorem dX7_remove_16 : decode cX7_remove 16 = .ok (.new 110, 3) := by decide +kernel
theorem dX7_remove_19 : decode cX7_remove 19 = .ok (.dup, 1) := by decide +kernel
theorem dX7_remove_20 : decode cX7_remove 20 = .ok (.ldc 112, 2) := by decide +kernel
theorem dX7_remove_22 : decode cX7_remove 22 = .ok (.invokespecial 114, 3) := by decide +kernel
theorem dX7_remove_25 : decode cX7_remove 25 = .ok (.athrow, 1) := by decide +kernel
theorem dX7_remove_26 : decode cX7_remove 26 = .ok (.aload_n 0, 1) := by decide +kernel
theorem dX7_remove_27 : decode cX7_remove 27 = .ok (.invokevirtual 80, 3) := by decide +kernel
theorem dX7_remove_30 : decode cX7_remove 30 = .ok (.aload_n 0, 1) := by decide +kernel
theorem dX7_remove_31 : decode cX7_remove 31 = .ok (.getfield 12, 3) := by decide +kernel
theorem dX7_remove_34 : decode cX7_remove 34 = .ok (.iload_n 1, 1) := by decide +kernel
theorem dX7_remove_35 : decode cX7_remove 35 = .ok (.invokevirtual 115, 3) := by decide +kernel
theorem dX7_remove_38 : decode cX7_remove 38 = .ok (.aload_n 0, 1) := by decide +kernel
theorem dX7_remove_39 : decode cX7_remove 39 = .ok (.getfield 12, 3) := by decide +kernel
theorem dX7_remove_42 : decode cX7_remove 42 = .ok (.getfield 77, 3) := by decide +kernel
theorem dX7_remove_45 : decode cX7_remove 45 = .ok (.ireturn, 1) := by decide +kernel
theorem dX7_multiply_0 : decode cX7_multiply 0 = .ok (.aload_n 0, 1) := by decide +kernel
theorem dX7_multiply_1 : decode cX7_multiply 1 = .ok (.iload_n 1, 1) := by decide +kernel
theorem dX7_multiply_2 : decode cX7_multiply 2 = .ok (.invokevirtual 118, 3) := by decide +kernel
theorem dX7_multiply_5 : decode cX7_multiply 5 = .ok (.aload_n 0, 1) := by decide +kernel
theorem dX7_multiply_6 : decode cX7_multiply 6 = .ok (.getfield 16, 3) := by decide +kernel
theorem dX7_multiply_9 : decode cX7_multiply 9 = .ok (.iload_n 1, 1) := by decide +kernel
theorem dX7_multiply_10 : decode cX7_multiply 10 = .ok (.aaload, 1) := by decide +kernel
theorem dX7_multiply_11 : decode cX7_multiply 11 = .ok (.astore_n 2, 1) := by decide +kernel
theorem dX7_multiply_12 : decode cX7_multiply 12 = .ok (.aload_n 0, 1) := by decide +kernel
theorem dX7_multiply_13 : decode cX7_multiply 13 = .ok (.getfield 12, 3) := by decide +kernel
theorem dX7_multiply_16 : decode cX7_multiply 16 = .ok (.aload_n 2, 1) := by decide +kernel
theorem dX7_multiply_17 : decode cX7_multiply 17 = .ok (.invokestatic 121, 3) := by decide +kernel
theorem dX7_multiply_20 : decode cX7_multiply 20 = .ok (.ifCond .eq 13, 3) := by decide +kernel
theorem dX7_multiply_23 : decode cX7_multiply 23 = .ok (.new 110, 3) := by decide +kernel
theorem dX7_multiply_26 : decode cX7_multiply 26 = .ok (.dup, 1) := by decide +kernel
theorem dX7_multiply_27 : decode cX7_multiply 27 = .ok (.ldc 125, 2) := by decide +kernel
theorem dX7_multiply_29 : decode cX7_multiply 29 = .ok (.invokespecial 114, 3) := by decide +kernel
theorem dX7_multiply_32 : decode cX7_multiply 32 = .ok (.athrow, 1) := by decide +kernel
theorem dX7_multiply_33 : decode cX7_multiply 33 = .ok (.aload_n 0, 1) := by decide +kernel
theorem dX7_multiply_34 : decode cX7_multiply 34 = .ok (.invokevirtual 80, 3) := by decide +kernel
theorem dX7_multiply_37 : decode cX7_multiply 37 = .ok (.aload_n 0, 1) := by decide +kernel
theorem dX7_multiply_38 : decode cX7_multiply 38 = .ok (.getfield 12, 3) := by decide +kernel
theorem dX7_multiply_41 : decode cX7_multiply 41 = .ok (.aload_n 0, 1) := by decide +kernel
theorem dX7_multiply_42 : decode cX7_multiply 42 = .ok (.getfield 27, 3) := by decide +kernel
theorem dX7_multiply_45 : decode cX7_multiply 45 = .ok (.invokevirtual 127, 3) := by decide +kernel
theorem dX7_multiply_48 : decode cX7_multiply 48 = .ok (.aload_n 2, 1) := by decide +kernel
theorem dX7_multiply_49 : decode cX7_multiply 49 = .ok (.invokevirtual 131, 3) := by decide +kernel
theorem dX7_multiply_52 : decode cX7_multiply 52 = .ok (.aload_n 0, 1) := by decide +kernel
theorem dX7_multiply_53 : decode cX7_multiply 53 = .ok (.dup, 1) := by decide +kernel
theorem dX7_multiply_54 : decode cX7_multiply 54 = .ok (.getfield 66, 3) := by decide +kernel
theorem dX7_multiply_57 : decode cX7_multiply 57 = .ok (.iconst 1, 1) := by decide +kernel
theorem dX7_multiply_58 : decode cX7_multiply 58 = .ok (.iadd, 1) := by decide +kernel
theorem dX7_multiply_59 : decode cX7_multiply 59 = .ok (.putfield 66, 3) := by decide +kernel
theorem dX7_multiply_62 : decode cX7_multiply 62 = .ok (.aload_n 0, 1) := by decide +kernel
theorem dX7_multiply_63 : decode cX7_multiply 63 = .ok (.getfield 12, 3) := by decide +kernel
theorem dX7_multiply_66 : decode cX7_multiply 66 = .ok (.getfield 77, 3) := by decide +kernel
theorem dX7_multiply_69 : decode cX7_multiply 69 = .ok (.ireturn, 1) := by decide +kernel
theorem dX7_label_0 : decode cX7_label 0 = .ok (.aload_n 0, 1) := by decide +kernel
theorem dX7_label_1 : decode cX7_label 1 = .ok (.iload_n 1, 1) := by decide +kernel
theorem dX7_label_2 : decode cX7_label 2 = .ok (.invokevirtual 87, 3) := by decide +kernel
theorem dX7_label_5 : decode cX7_label 5 = .ok (.aload_n 0, 1) := by decide +kernel
theorem dX7_label_6 : decode cX7_label 6 = .ok (.iload_n 2, 1) := by decide +kernel
theorem dX7_label_7 : decode cX7_label 7 = .ok (.invokevirtual 135, 3) := by decide +kernel
theorem dX7_label_10 : decode cX7_label 10 = .ok (.iload_n 3, 1) := by decide +kernel
theorem dX7_label_11 : decode cX7_label 11 = .ok (.invokestatic 138, 3) := by decide +kernel
theorem dX7_label_14 : decode cX7_label 14 = .ok (.aload_n 0, 1) := by decide +kernel
theorem dX7_label_15 : decode cX7_label 15 = .ok (.getfield 12, 3) := by decide +kernel
theorem dX7_label_18 : decode cX7_label 18 = .ok (.getfield 141, 3) := by decide +kernel
theorem dX7_label_21 : decode cX7_label 21 = .ok (.iload_n 1, 1) := by decide +kernel
theorem dX7_label_22 : decode cX7_label 22 = .ok (.aaload, 1) := by decide +kernel
theorem dX7_label_23 : decode cX7_label 23 = .ok (.iload_n 2, 1) := by decide +kernel
theorem dX7_label_24 : decode cX7_label 24 = .ok (.iaload, 1) := by decide +kernel
theorem dX7_label_25 : decode cX7_label 25 = .ok (.istore 4, 2) := by decide +kernel
theorem dX7_label_27 : decode cX7_label 27 = .ok (.aload_n 0, 1) := by decide +kernel
theorem dX7_label_28 : decode cX7_label 28 = .ok (.invokevirtual 80, 3) := by decide +kernel
theorem dX7_label_31 : decode cX7_label 31 = .ok (.aload_n 0, 1) := by decide +kernel
theorem dX7_label_32 : decode cX7_label 32 = .ok (.getfield 12, 3) := by decide +kernel
theorem dX7_label_35 : decode cX7_label 35 = .ok (.getfield 141, 3) := by decide +kernel
theorem dX7_label_38 : decode cX7_label 38 = .ok (.iload_n 1, 1) := by decide +kernel
theorem dX7_label_39 : decode cX7_label 39 = .ok (.aaload, 1) := by decide +kernel
theorem dX7_label_40 : decode cX7_label 40 = .ok (.iload_n 2, 1) := by decide +kernel
theorem dX7_label_41 : decode cX7_label 41 = .ok (.iload_n 3, 1) := by decide +kernel
theorem dX7_label_42 : decode cX7_label 42 = .ok (.iastore, 1) := by decide +kernel
theorem dX7_label_43 : decode cX7_label 43 = .ok (.iload 4, 2) := by decide +kernel
theorem dX7_label_45 : decode cX7_label 45 = .ok (.ireturn, 1) := by decide +kernel
theorem dX7_hold_0 : decode cX7_hold 0 = .ok (.aload_n 0, 1) := by decide +kernel
theorem dX7_hold_1 : decode cX7_hold 1 = .ok (.iload_n 1, 1) := by decide +kernel
theorem dX7_hold_2 : decode cX7_hold 2 = .ok (.invokevirtual 135, 3) := by decide +kernel
theorem dX7_hold_5 : decode cX7_hold 5 = .ok (.iload_n 2, 1) := by decide +kernel
theorem dX7_hold_6 : decode cX7_hold 6 = .ok (.invokestatic 138, 3) := by decide +kernel
theorem dX7_hold_9 : decode cX7_hold 9 = .ok (.aload_n 0, 1) := by decide +kernel
theorem dX7_hold_10 : decode cX7_hold 10 = .ok (.getfield 12, 3) := by decide +kernel
theorem dX7_hold_13 : decode cX7_hold 13 = .ok (.getfield 145, 3) := by decide +kernel
theorem dX7_hold_16 : decode cX7_hold 16 = .ok (.iload_n 1, 1) := by decide +kernel
theorem dX7_hold_17 : decode cX7_hold 17 = .ok (.iaload, 1) := by decide +kernel
theorem dX7_hold_18 : decode cX7_hold 18 = .ok (.istore_n 3, 1) := by decide +kernel
theorem dX7_hold_19 : decode cX7_hold 19 = .ok (.aload_n 0, 1) := by decide +kernel
theorem dX7_hold_20 : decode cX7_hold 20 = .ok (.invokevirtual 80, 3) := by decide +kernel
theorem dX7_hold_23 : decode cX7_hold 23 = .ok (.aload_n 0, 1) := by decide +kernel
theorem dX7_hold_24 : decode cX7_hold 24 = .ok (.getfield 12, 3) := by decide +kernel
theorem dX7_hold_27 : decode cX7_hold 27 = .ok (.getfield 145, 3) := by decide +kernel
theorem dX7_hold_30 : decode cX7_hold 30 = .ok (.iload_n 1, 1) := by decide +kernel
theorem dX7_hold_31 : decode cX7_hold 31 = .ok (.iload_n 2, 1) := by decide +kernel
theorem dX7_hold_32 : decode cX7_hold 32 = .ok (.iastore, 1) := by decide +kernel
theorem dX7_hold_33 : decode cX7_hold 33 = .ok (.iload_n 3, 1) := by decide +kernel
theorem dX7_hold_34 : decode cX7_hold 34 = .ok (.ireturn, 1) := by decide +kernel
theorem dX7_labelByColors_0 : decode cX7_labelByColors 0 = .ok (.aload_n 0, 1) := by decide +kernel
theorem dX7_labelByColors_1 : decode cX7_labelByColors 1 = .ok (.getfield 41, 3) := by decide +kernel
theorem dX7_labelByColors_4 : decode cX7_labelByColors 4 = .ok (.aload_n 0, 1) := by decide +kernel
theorem dX7_labelByColors_5 : decode cX7_labelByColors 5 = .ok (.getfield 12, 3) := by decide +kernel
theorem dX7_labelByColors_8 : decode cX7_labelByColors 8 = .ok (.invokevirtual 148, 3) := by decide +kernel
theorem dX7_labelByColors_11 : decode cX7_labelByColors 11 = .ok (.aload_n 0, 1) := by decide +kernel
theorem dX7_labelByColors_12 : decode cX7_labelByColors 12 = .ok (.getfield 41, 3) := by decide +kernel
theorem dX7_labelByColors_15 : decode cX7_labelByColors 15 = .ok (.getfield 152, 3) := by decide +kernel
theorem dX7_labelByColors_18 : decode cX7_labelByColors 18 = .ok (.aload_n 0, 1) := by decide +kernel
theorem dX7_labelByColors_19 : decode cX7_labelByColors 19 = .ok (.getfield 12, 3) := by decide +kernel
theorem dX7_labelByColors_22 : decode cX7_labelByColors 22 = .ok (.getfield 155, 3) := by decide +kernel
theorem dX7_labelByColors_25 : decode cX7_labelByColors 25 = .ok (.if_icmp .le 13, 3) := by decide +kernel
theorem dX7_labelByColors_28 : decode cX7_labelByColors 28 = .ok (.new 110, 3) := by decide +kernel
theorem dX7_labelByColors_31 : decode cX7_labelByColors 31 = .ok (.dup, 1) := by decide +kernel
theorem dX7_labelByColors_32 : decode cX7_labelByColors 32 = .ok (.ldc 158, 2) := by decide +kernel
theorem dX7_labelByColors_34 : decode cX7_labelByColors 34 = .ok (.invokespecial 114, 3) := by decide +kernel
theorem dX7_labelByColors_37 : decode cX7_labelByColors 37 = .ok (.athrow, 1) := by decide +kernel
theorem dX7_labelByColors_38 : decode cX7_labelByColors 38 = .ok (.aload_n 0, 1) := by decide +kernel
theorem dX7_labelByColors_39 : decode cX7_labelByColors 39 = .ok (.invokevirtual 80, 3) := by decide +kernel
theorem dX7_labelByColors_42 : decode cX7_labelByColors 42 = .ok (.aload_n 0, 1) := by decide +kernel
theorem dX7_labelByColors_43 : decode cX7_labelByColors 43 = .ok (.getfield 12, 3) := by decide +kernel
theorem dX7_labelByColors_46 : decode cX7_labelByColors 46 = .ok (.aload_n 0, 1) := by decide +kernel
theorem dX7_labelByColors_47 : decode cX7_labelByColors 47 = .ok (.getfield 41, 3) := by decide +kernel
theorem dX7_labelByColors_50 : decode cX7_labelByColors 50 = .ok (.invokevirtual 160, 3) := by decide +kernel
theorem dX7_labelByColors_53 : decode cX7_labelByColors 53 = .ok (.aload_n 0, 1) := by decide +kernel
theorem dX7_labelByColors_54 : decode cX7_labelByColors 54 = .ok (.getfield 41, 3) := by decide +kernel
theorem dX7_labelByColors_57 : decode cX7_labelByColors 57 = .ok (.getfield 152, 3) := by decide +kernel
theorem dX7_labelByColors_60 : decode cX7_labelByColors 60 = .ok (.ireturn, 1) := by decide +kernel
theorem dX7_takeHandle_0 : decode cX7_takeHandle 0 = .ok (.iload_n 1, 1) := by decide +kernel
theorem dX7_takeHandle_1 : decode cX7_takeHandle 1 = .ok (.invokestatic 164, 3) := by decide +kernel
theorem dX7_takeHandle_4 : decode cX7_takeHandle 4 = .ok (.aload_n 0, 1) := by decide +kernel
theorem dX7_takeHandle_5 : decode cX7_takeHandle 5 = .ok (.getfield 62, 3) := by decide +kernel
theorem dX7_takeHandle_8 : decode cX7_takeHandle 8 = .ok (.aload_n 0, 1) := by decide +kernel
theorem dX7_takeHandle_9 : decode cX7_takeHandle 9 = .ok (.getfield 12, 3) := by decide +kernel
theorem dX7_takeHandle_12 : decode cX7_takeHandle 12 = .ok (.iload_n 1, 1) := by decide +kernel
theorem dX7_takeHandle_13 : decode cX7_takeHandle 13 = .ok (.invokevirtual 167, 3) := by decide +kernel
theorem dX7_takeHandle_16 : decode cX7_takeHandle 16 = .ok (.aload_n 0, 1) := by decide +kernel
theorem dX7_takeHandle_17 : decode cX7_takeHandle 17 = .ok (.invokevirtual 80, 3) := by decide +kernel
theorem dX7_takeHandle_20 : decode cX7_takeHandle 20 = .ok (.aload_n 0, 1) := by decide +kernel
theorem dX7_takeHandle_21 : decode cX7_takeHandle 21 = .ok (.getfield 62, 3) := by decide +kernel
theorem dX7_takeHandle_24 : decode cX7_takeHandle 24 = .ok (.getfield 171, 3) := by decide +kernel
theorem dX7_takeHandle_27 : decode cX7_takeHandle 27 = .ok (.getfield 174, 3) := by decide +kernel
theorem dX7_takeHandle_30 : decode cX7_takeHandle 30 = .ok (.ifCond .ne 5, 3) := by decide +kernel
theorem dX7_takeHandle_33 : decode cX7_takeHandle 33 = .ok (.iconst 0, 1) := by decide +kernel
theorem dX7_takeHandle_34 : decode cX7_takeHandle 34 = .ok (.ireturn, 1) := by decide +kernel
theorem dX7_takeHandle_35 : decode cX7_takeHandle 35 = .ok (.aload_n 0, 1) := by decide +kernel
theorem dX7_takeHandle_36 : decode cX7_takeHandle 36 = .ok (.getfield 62, 3) := by decide +kernel
theorem dX7_takeHandle_39 : decode cX7_takeHandle 39 = .ok (.getfield 178, 3) := by decide +kernel
theorem dX7_takeHandle_42 : decode cX7_takeHandle 42 = .ok (.iconst 0, 1) := by decide +kernel
theorem dX7_takeHandle_43 : decode cX7_takeHandle 43 = .ok (.aload_n 0, 1) := by decide +kernel
theorem dX7_takeHandle_44 : decode cX7_takeHandle 44 = .ok (.getfield 12, 3) := by decide +kernel
theorem dX7_takeHandle_47 : decode cX7_takeHandle 47 = .ok (.getfield 145, 3) := by decide +kernel
theorem dX7_takeHandle_50 : decode cX7_takeHandle 50 = .ok (.iconst 0, 1) := by decide +kernel
theorem dX7_takeHandle_51 : decode cX7_takeHandle 51 = .ok (.iconst 4, 1) := by decide +kernel
theorem dX7_takeHandle_52 : decode cX7_takeHandle 52 = .ok (.invokestatic 181, 3) := by decide +kernel
theorem dX7_takeHandle_55 : decode cX7_takeHandle 55 = .ok (.iconst 1, 1) := by decide +kernel
theorem dX7_takeHandle_56 : decode cX7_takeHandle 56 = .ok (.ireturn, 1) := by decide +kernel
theorem dX7_append_0 : decode cX7_append 0 = .ok (.iload_n 1, 1) := by decide +kernel
theorem dX7_append_1 : decode cX7_append 1 = .ok (.bipush 33, 2) := by decide +kernel
theorem dX7_append_3 : decode cX7_append 3 = .ok (.if_icmp .lt 9, 3) := by decide +kernel
theorem dX7_append_6 : decode cX7_append 6 = .ok (.iload_n 1, 1) := by decide +kernel
theorem dX7_append_7 : decode cX7_append 7 = .ok (.bipush 126, 2) := by decide +kernel
theorem dX7_append_9 : decode cX7_append 9 = .ok (.if_icmp .le 13, 3) := by decide +kernel
theorem dX7_append_12 : decode cX7_append 12 = .ok (.new 70, 3) := by decide +kernel
theorem dX7_append_15 : decode cX7_append 15 = .ok (.dup, 1) := by decide +kernel
theorem dX7_append_16 : decode cX7_append 16 = .ok (.ldc 187, 2) := by decide +kernel
theorem dX7_append_18 : decode cX7_append 18 = .ok (.invokespecial 74, 3) := by decide +kernel
theorem dX7_append_21 : decode cX7_append 21 = .ok (.athrow, 1) := by decide +kernel
theorem dX7_append_22 : decode cX7_append 22 = .ok (.aload_n 0, 1) := by decide +kernel
theorem dX7_append_23 : decode cX7_append 23 = .ok (.getfield 34, 3) := by decide +kernel
theorem dX7_append_26 : decode cX7_append 26 = .ok (.getfield 189, 3) := by decide +kernel
theorem dX7_append_29 : decode cX7_append 29 = .ok (.bipush 60, 2) := by decide +kernel
theorem dX7_append_31 : decode cX7_append 31 = .ok (.if_icmp .lt 13, 3) := by decide +kernel
theorem dX7_append_34 : decode cX7_append 34 = .ok (.new 110, 3) := by decide +kernel
theorem dX7_append_37 : decode cX7_append 37 = .ok (.dup, 1) := by decide +kernel
theorem dX7_append_38 : decode cX7_append 38 = .ok (.ldc 192, 2) := by decide +kernel
theorem dX7_append_40 : decode cX7_append 40 = .ok (.invokespecial 114, 3) := by decide +kernel
theorem dX7_append_43 : decode cX7_append 43 = .ok (.athrow, 1) := by decide +kernel
theorem dX7_append_44 : decode cX7_append 44 = .ok (.aload_n 0, 1) := by decide +kernel
theorem dX7_append_45 : decode cX7_append 45 = .ok (.getfield 34, 3) := by decide +kernel
theorem dX7_append_48 : decode cX7_append 48 = .ok (.getfield 194, 3) := by decide +kernel
theorem dX7_append_51 : decode cX7_append 51 = .ok (.aload_n 0, 1) := by decide +kernel
theorem dX7_append_52 : decode cX7_append 52 = .ok (.getfield 34, 3) := by decide +kernel
theorem dX7_append_55 : decode cX7_append 55 = .ok (.getfield 189, 3) := by decide +kernel
theorem dX7_append_58 : decode cX7_append 58 = .ok (.iload_n 1, 1) := by decide +kernel
theorem dX7_append_59 : decode cX7_append 59 = .ok (.i2c, 1) := by decide +kernel
theorem dX7_append_60 : decode cX7_append 60 = .ok (.castore, 1) := by decide +kernel
theorem dX7_append_61 : decode cX7_append 61 = .ok (.aload_n 0, 1) := by decide +kernel
theorem dX7_append_62 : decode cX7_append 62 = .ok (.getfield 34, 3) := by decide +kernel
theorem dX7_append_65 : decode cX7_append 65 = .ok (.dup, 1) := by decide +kernel
theorem dX7_append_66 : decode cX7_append 66 = .ok (.getfield 189, 3) := by decide +kernel
theorem dX7_append_69 : decode cX7_append 69 = .ok (.iconst 1, 1) := by decide +kernel
theorem dX7_append_70 : decode cX7_append 70 = .ok (.iadd, 1) := by decide +kernel
theorem dX7_append_71 : decode cX7_append 71 = .ok (.putfield 189, 3) := by decide +kernel
theorem dX7_append_74 : decode cX7_append 74 = .ok (.aload_n 0, 1) := by decide +kernel
theorem dX7_append_75 : decode cX7_append 75 = .ok (.getfield 34, 3) := by decide +kernel
theorem dX7_append_78 : decode cX7_append 78 = .ok (.getfield 189, 3) := by decide +kernel
theorem dX7_append_81 : decode cX7_append 81 = .ok (.ireturn, 1) := by decide +kernel
theorem dX7_clearBuffer_0 : decode cX7_clearBuffer 0 = .ok (.aload_n 0, 1) := by decide +kernel
theorem dX7_clearBuffer_1 : decode cX7_clearBuffer 1 = .ok (.getfield 34, 3) := by decide +kernel
theorem dX7_clearBuffer_4 : decode cX7_clearBuffer 4 = .ok (.getfield 189, 3) := by decide +kernel
theorem dX7_clearBuffer_7 : decode cX7_clearBuffer 7 = .ok (.istore_n 1, 1) := by decide +kernel
theorem dX7_clearBuffer_8 : decode cX7_clearBuffer 8 = .ok (.aload_n 0, 1) := by decide +kernel
theorem dX7_clearBuffer_9 : decode cX7_clearBuffer 9 = .ok (.getfield 34, 3) := by decide +kernel
theorem dX7_clearBuffer_12 : decode cX7_clearBuffer 12 = .ok (.iconst 0, 1) := by decide +kernel
theorem dX7_clearBuffer_13 : decode cX7_clearBuffer 13 = .ok (.putfield 189, 3) := by decide +kernel
theorem dX7_clearBuffer_16 : decode cX7_clearBuffer 16 = .ok (.iload_n 1, 1) := by decide +kernel
theorem dX7_clearBuffer_17 : decode cX7_clearBuffer 17 = .ok (.ireturn, 1) := by decide +kernel
theorem dX7_firstError_0 : decode cX7_firstError 0 = .ok (.aload_n 0, 1) := by decide +kernel
theorem dX7_firstError_1 : decode cX7_firstError 1 = .ok (.getfield 34, 3) := by decide +kernel
theorem dX7_firstError_4 : decode cX7_firstError 4 = .ok (.aload_n 0, 1) := by decide +kernel
theorem dX7_firstError_5 : decode cX7_firstError 5 = .ok (.getfield 12, 3) := by decide +kernel
theorem dX7_firstError_8 : decode cX7_firstError 8 = .ok (.getfield 77, 3) := by decide +kernel
theorem dX7_firstError_11 : decode cX7_firstError 11 = .ok (.invokevirtual 198, 3) := by decide +kernel
theorem dX7_firstError_14 : decode cX7_firstError 14 = .ok (.ireturn, 1) := by decide +kernel
theorem dX7_read_0 : decode cX7_read 0 = .ok (.aload_n 0, 1) := by decide +kernel
theorem dX7_read_1 : decode cX7_read 1 = .ok (.getfield 34, 3) := by decide +kernel
theorem dX7_read_4 : decode cX7_read 4 = .ok (.aload_n 0, 1) := by decide +kernel
theorem dX7_read_5 : decode cX7_read 5 = .ok (.getfield 12, 3) := by decide +kernel
theorem dX7_read_8 : decode cX7_read 8 = .ok (.getfield 77, 3) := by decide +kernel
theorem dX7_read_11 : decode cX7_read 11 = .ok (.invokevirtual 202, 3) := by decide +kernel
theorem dX7_read_14 : decode cX7_read 14 = .ok (.ifCond .ne 13, 3) := by decide +kernel
theorem dX7_read_17 : decode cX7_read 17 = .ok (.new 70, 3) := by decide +kernel
theorem dX7_read_20 : decode cX7_read 20 = .ok (.dup, 1) := by decide +kernel
theorem dX7_read_21 : decode cX7_read 21 = .ok (.ldc 206, 2) := by decide +kernel
theorem dX7_read_23 : decode cX7_read 23 = .ok (.invokespecial 74, 3) := by decide +kernel
theorem dX7_read_26 : decode cX7_read 26 = .ok (.athrow, 1) := by decide +kernel
theorem dX7_read_27 : decode cX7_read 27 = .ok (.aload_n 0, 1) := by decide +kernel
theorem dX7_read_28 : decode cX7_read 28 = .ok (.invokevirtual 80, 3) := by decide +kernel
theorem dX7_read_31 : decode cX7_read 31 = .ok (.aload_n 0, 1) := by decide +kernel
theorem dX7_read_32 : decode cX7_read 32 = .ok (.getfield 34, 3) := by decide +kernel
theorem dX7_read_35 : decode cX7_read 35 = .ok (.aload_n 0, 1) := by decide +kernel
theorem dX7_read_36 : decode cX7_read 36 = .ok (.getfield 12, 3) := by decide +kernel
theorem dX7_read_39 : decode cX7_read 39 = .ok (.invokevirtual 208, 3) := by decide +kernel
theorem dX7_read_42 : decode cX7_read 42 = .ok (.aload_n 0, 1) := by decide +kernel
theorem dX7_read_43 : decode cX7_read 43 = .ok (.getfield 34, 3) := by decide +kernel
theorem dX7_read_46 : decode cX7_read 46 = .ok (.iconst 0, 1) := by decide +kernel
theorem dX7_read_47 : decode cX7_read 47 = .ok (.putfield 189, 3) := by decide +kernel
theorem dX7_read_50 : decode cX7_read 50 = .ok (.aload_n 0, 1) := by decide +kernel
theorem dX7_read_51 : decode cX7_read 51 = .ok (.getfield 12, 3) := by decide +kernel
theorem dX7_read_54 : decode cX7_read 54 = .ok (.invokevirtual 97, 3) := by decide +kernel
theorem dX7_read_57 : decode cX7_read 57 = .ok (.ireturn, 1) := by decide +kernel
theorem dX7_take_0 : decode cX7_take 0 = .ok (.aload_n 0, 1) := by decide +kernel
theorem dX7_take_1 : decode cX7_take 1 = .ok (.iload_n 1, 1) := by decide +kernel
theorem dX7_take_2 : decode cX7_take 2 = .ok (.invokevirtual 211, 3) := by decide +kernel
theorem dX7_take_5 : decode cX7_take 5 = .ok (.aload_n 0, 1) := by decide +kernel
theorem dX7_take_6 : decode cX7_take 6 = .ok (.getfield 16, 3) := by decide +kernel
theorem dX7_take_9 : decode cX7_take 9 = .ok (.iload_n 1, 1) := by decide +kernel
theorem dX7_take_10 : decode cX7_take 10 = .ok (.aaload, 1) := by decide +kernel
theorem dX7_take_11 : decode cX7_take 11 = .ok (.aload_n 0, 1) := by decide +kernel
theorem dX7_take_12 : decode cX7_take 12 = .ok (.getfield 12, 3) := by decide +kernel
theorem dX7_take_15 : decode cX7_take 15 = .ok (.invokevirtual 214, 3) := by decide +kernel
theorem dX7_take_18 : decode cX7_take 18 = .ok (.aload_n 0, 1) := by decide +kernel
theorem dX7_take_19 : decode cX7_take 19 = .ok (.getfield 20, 3) := by decide +kernel
theorem dX7_take_22 : decode cX7_take 22 = .ok (.iload_n 1, 1) := by decide +kernel
theorem dX7_take_23 : decode cX7_take 23 = .ok (.iconst 1, 1) := by decide +kernel
theorem dX7_take_24 : decode cX7_take 24 = .ok (.bastore, 1) := by decide +kernel
theorem dX7_take_25 : decode cX7_take 25 = .ok (.aload_n 0, 1) := by decide +kernel
theorem dX7_take_26 : decode cX7_take 26 = .ok (.getfield 12, 3) := by decide +kernel
theorem dX7_take_29 : decode cX7_take 29 = .ok (.getfield 77, 3) := by decide +kernel
theorem dX7_take_32 : decode cX7_take 32 = .ok (.ireturn, 1) := by decide +kernel
theorem dX7_restore_0 : decode cX7_restore 0 = .ok (.aload_n 0, 1) := by decide +kernel
theorem dX7_restore_1 : decode cX7_restore 1 = .ok (.iload_n 1, 1) := by decide +kernel
theorem dX7_restore_2 : decode cX7_restore 2 = .ok (.invokevirtual 118, 3) := by decide +kernel
theorem dX7_restore_5 : decode cX7_restore 5 = .ok (.aload_n 0, 1) := by decide +kernel
theorem dX7_restore_6 : decode cX7_restore 6 = .ok (.invokevirtual 80, 3) := by decide +kernel
theorem dX7_restore_9 : decode cX7_restore 9 = .ok (.aload_n 0, 1) := by decide +kernel
theorem dX7_restore_10 : decode cX7_restore 10 = .ok (.getfield 12, 3) := by decide +kernel
theorem dX7_restore_13 : decode cX7_restore 13 = .ok (.aload_n 0, 1) := by decide +kernel
theorem dX7_restore_14 : decode cX7_restore 14 = .ok (.getfield 16, 3) := by decide +kernel
theorem dX7_restore_17 : decode cX7_restore 17 = .ok (.iload_n 1, 1) := by decide +kernel
theorem dX7_restore_18 : decode cX7_restore 18 = .ok (.aaload, 1) := by decide +kernel
theorem dX7_restore_19 : decode cX7_restore 19 = .ok (.invokevirtual 214, 3) := by decide +kernel
theorem dX7_restore_22 : decode cX7_restore 22 = .ok (.aload_n 0, 1) := by decide +kernel
theorem dX7_restore_23 : decode cX7_restore 23 = .ok (.getfield 12, 3) := by decide +kernel
theorem dX7_restore_26 : decode cX7_restore 26 = .ok (.getfield 77, 3) := by decide +kernel
theorem dX7_restore_29 : decode cX7_restore 29 = .ok (.ireturn, 1) := by decide +kernel
theorem dX7_undo_0 : decode cX7_undo 0 = .ok (.aload_n 0, 1) := by decide +kernel
theorem dX7_undo_1 : decode cX7_undo 1 = .ok (.getfield 27, 3) := by decide +kernel
theorem dX7_undo_4 : decode cX7_undo 4 = .ok (.getfield 217, 3) := by decide +kernel
theorem dX7_undo_7 : decode cX7_undo 7 = .ok (.ifCond .ne 13, 3) := by decide +kernel
theorem dX7_undo_10 : decode cX7_undo 10 = .ok (.new 110, 3) := by decide +kernel
theorem dX7_undo_13 : decode cX7_undo 13 = .ok (.dup, 1) := by decide +kernel
theorem dX7_undo_14 : decode cX7_undo 14 = .ok (.ldc 220, 2) := by decide +kernel
theorem dX7_undo_16 : decode cX7_undo 16 = .ok (.invokespecial 114, 3) := by decide +kernel
theorem dX7_undo_19 : decode cX7_undo 19 = .ok (.athrow, 1) := by decide +kernel
theorem dX7_undo_20 : decode cX7_undo 20 = .ok (.aload_n 0, 1) := by decide +kernel
theorem dX7_undo_21 : decode cX7_undo 21 = .ok (.getfield 12, 3) := by decide +kernel
theorem dX7_undo_24 : decode cX7_undo 24 = .ok (.aload_n 0, 1) := by decide +kernel
theorem dX7_undo_25 : decode cX7_undo 25 = .ok (.getfield 27, 3) := by decide +kernel
theorem dX7_undo_28 : decode cX7_undo 28 = .ok (.invokevirtual 127, 3) := by decide +kernel
theorem dX7_undo_31 : decode cX7_undo 31 = .ok (.invokevirtual 214, 3) := by decide +kernel
theorem dX7_undo_34 : decode cX7_undo 34 = .ok (.aload_n 0, 1) := by decide +kernel
theorem dX7_undo_35 : decode cX7_undo 35 = .ok (.aload_n 0, 1) := by decide +kernel
theorem dX7_undo_36 : decode cX7_undo 36 = .ok (.getfield 27, 3) := by decide +kernel
theorem dX7_undo_39 : decode cX7_undo 39 = .ok (.invokevirtual 222, 3) := by decide +kernel
theorem dX7_undo_42 : decode cX7_undo 42 = .ok (.putfield 66, 3) := by decide +kernel
theorem dX7_undo_45 : decode cX7_undo 45 = .ok (.aload_n 0, 1) := by decide +kernel
theorem dX7_undo_46 : decode cX7_undo 46 = .ok (.getfield 27, 3) := by decide +kernel
theorem dX7_undo_49 : decode cX7_undo 49 = .ok (.invokevirtual 225, 3) := by decide +kernel
theorem dX7_undo_52 : decode cX7_undo 52 = .ok (.aload_n 0, 1) := by decide +kernel
theorem dX7_undo_53 : decode cX7_undo 53 = .ok (.getfield 27, 3) := by decide +kernel
theorem dX7_undo_56 : decode cX7_undo 56 = .ok (.getfield 217, 3) := by decide +kernel
theorem dX7_undo_59 : decode cX7_undo 59 = .ok (.ireturn, 1) := by decide +kernel
theorem dX7_joined_0 : decode cX7_joined 0 = .ok (.aload_n 0, 1) := by decide +kernel
theorem dX7_joined_1 : decode cX7_joined 1 = .ok (.iload_n 1, 1) := by decide +kernel
theorem dX7_joined_2 : decode cX7_joined 2 = .ok (.invokevirtual 87, 3) := by decide +kernel
theorem dX7_joined_5 : decode cX7_joined 5 = .ok (.aload_n 0, 1) := by decide +kernel
theorem dX7_joined_6 : decode cX7_joined 6 = .ok (.iload_n 2, 1) := by decide +kernel
theorem dX7_joined_7 : decode cX7_joined 7 = .ok (.invokevirtual 87, 3) := by decide +kernel
theorem dX7_joined_10 : decode cX7_joined 10 = .ok (.aload_n 0, 1) := by decide +kernel
theorem dX7_joined_11 : decode cX7_joined 11 = .ok (.getfield 12, 3) := by decide +kernel
theorem dX7_joined_14 : decode cX7_joined 14 = .ok (.iload_n 1, 1) := by decide +kernel
theorem dX7_joined_15 : decode cX7_joined 15 = .ok (.iload_n 2, 1) := by decide +kernel
theorem dX7_joined_16 : decode cX7_joined 16 = .ok (.invokevirtual 228, 3) := by decide +kernel
theorem dX7_joined_19 : decode cX7_joined 19 = .ok (.ifCond .eq 7, 3) := by decide +kernel
theorem dX7_joined_22 : decode cX7_joined 22 = .ok (.iconst 1, 1) := by decide +kernel
theorem dX7_joined_23 : decode cX7_joined 23 = .ok (.goto 4, 3) := by decide +kernel
theorem dX7_joined_26 : decode cX7_joined 26 = .ok (.iconst 0, 1) := by decide +kernel
theorem dX7_joined_27 : decode cX7_joined 27 = .ok (.ireturn, 1) := by decide +kernel
theorem dX7_vertex_0 : decode cX7_vertex 0 = .ok (.aload_n 0, 1) := by decide +kernel
theorem dX7_vertex_1 : decode cX7_vertex 1 = .ok (.iload_n 1, 1) := by decide +kernel
theorem dX7_vertex_2 : decode cX7_vertex 2 = .ok (.invokevirtual 87, 3) := by decide +kernel
theorem dX7_vertex_5 : decode cX7_vertex 5 = .ok (.iload_n 2, 1) := by decide +kernel
theorem dX7_vertex_6 : decode cX7_vertex 6 = .ok (.ifCond .lt 20, 3) := by decide +kernel
theorem dX7_vertex_9 : decode cX7_vertex 9 = .ok (.iload_n 2, 1) := by decide +kernel
theorem dX7_vertex_10 : decode cX7_vertex 10 = .ok (.bipush 13, 2) := by decide +kernel
theorem dX7_vertex_12 : decode cX7_vertex 12 = .ok (.if_icmp .gt 14, 3) := by decide +kernel
theorem dX7_vertex_15 : decode cX7_vertex 15 = .ok (.iload_n 2, 1) := by decide +kernel
theorem dX7_vertex_16 : decode cX7_vertex 16 = .ok (.iconst 5, 1) := by decide +kernel
theorem dX7_vertex_17 : decode cX7_vertex 17 = .ok (.if_icmp .le 19, 3) := by decide +kernel
theorem dX7_vertex_20 : decode cX7_vertex 20 = .ok (.iload_n 2, 1) := by decide +kernel
theorem dX7_vertex_21 : decode cX7_vertex 21 = .ok (.bipush 10, 2) := by decide +kernel
theorem dX7_vertex_23 : decode cX7_vertex 23 = .ok (.if_icmp .ge 13, 3) := by decide +kernel
theorem dX7_vertex_26 : decode cX7_vertex 26 = .ok (.new 70, 3) := by decide +kernel
theorem dX7_vertex_29 : decode cX7_vertex 29 = .ok (.dup, 1) := by decide +kernel
theorem dX7_vertex_30 : decode cX7_vertex 30 = .ok (.ldc 232, 2) := by decide +kernel
theorem dX7_vertex_32 : decode cX7_vertex 32 = .ok (.invokespecial 74, 3) := by decide +kernel
theorem dX7_vertex_35 : decode cX7_vertex 35 = .ok (.athrow, 1) := by decide +kernel
theorem dX7_vertex_36 : decode cX7_vertex 36 = .ok (.aload_n 0, 1) := by decide +kernel
theorem dX7_vertex_37 : decode cX7_vertex 37 = .ok (.invokevirtual 234, 3) := by decide +kernel
theorem dX7_vertex_40 : decode cX7_vertex 40 = .ok (.aload_n 0, 1) := by decide +kernel
theorem dX7_vertex_41 : decode cX7_vertex 41 = .ok (.iload_n 1, 1) := by decide +kernel
theorem dX7_vertex_42 : decode cX7_vertex 42 = .ok (.iload_n 2, 1) := by decide +kernel
theorem dX7_vertex_43 : decode cX7_vertex 43 = .ok (.invokevirtual 237, 3) := by decide +kernel
theorem dX7_vertex_46 : decode cX7_vertex 46 = .ok (.ireturn, 1) := by decide +kernel
theorem dX7_handle_0 : decode cX7_handle 0 = .ok (.aload_n 0, 1) := by decide +kernel
theorem dX7_handle_1 : decode cX7_handle 1 = .ok (.iload_n 1, 1) := by decide +kernel
theorem dX7_handle_2 : decode cX7_handle 2 = .ok (.invokevirtual 135, 3) := by decide +kernel
theorem dX7_handle_5 : decode cX7_handle 5 = .ok (.aload_n 0, 1) := by decide +kernel
theorem dX7_handle_6 : decode cX7_handle 6 = .ok (.getfield 12, 3) := by decide +kernel
theorem dX7_handle_9 : decode cX7_handle 9 = .ok (.getfield 145, 3) := by decide +kernel
theorem dX7_handle_12 : decode cX7_handle 12 = .ok (.iload_n 1, 1) := by decide +kernel
theorem dX7_handle_13 : decode cX7_handle 13 = .ok (.iaload, 1) := by decide +kernel
theorem dX7_handle_14 : decode cX7_handle 14 = .ok (.ireturn, 1) := by decide +kernel
theorem dX7_bound_0 : decode cX7_bound 0 = .ok (.iload_n 1, 1) := by decide +kernel
theorem dX7_bound_1 : decode cX7_bound 1 = .ok (.invokestatic 241, 3) := by decide +kernel
theorem dX7_bound_4 : decode cX7_bound 4 = .ok (.aload_n 0, 1) := by decide +kernel
theorem dX7_bound_5 : decode cX7_bound 5 = .ok (.getfield 55, 3) := by decide +kernel
theorem dX7_bound_8 : decode cX7_bound 8 = .ok (.aload_n 0, 1) := by decide +kernel
theorem dX7_bound_9 : decode cX7_bound 9 = .ok (.getfield 12, 3) := by decide +kernel
theorem dX7_bound_12 : decode cX7_bound 12 = .ok (.invokevirtual 244, 3) := by decide +kernel
theorem dX7_bound_15 : decode cX7_bound 15 = .ok (.aload_n 0, 1) := by decide +kernel
theorem dX7_bound_16 : decode cX7_bound 16 = .ok (.getfield 55, 3) := by decide +kernel
theorem dX7_bound_19 : decode cX7_bound 19 = .ok (.iload_n 1, 1) := by decide +kernel
theorem dX7_bound_20 : decode cX7_bound 20 = .ok (.invokevirtual 247, 3) := by decide +kernel
theorem dX7_bound_23 : decode cX7_bound 23 = .ok (.lreturn, 1) := by decide +kernel
theorem dX7_whyNot_0 : decode cX7_whyNot 0 = .ok (.iload_n 1, 1) := by decide +kernel
theorem dX7_whyNot_1 : decode cX7_whyNot 1 = .ok (.invokestatic 241, 3) := by decide +kernel
theorem dX7_whyNot_4 : decode cX7_whyNot 4 = .ok (.aload_n 0, 1) := by decide +kernel
theorem dX7_whyNot_5 : decode cX7_whyNot 5 = .ok (.iload_n 1, 1) := by decide +kernel
theorem dX7_whyNot_6 : decode cX7_whyNot 6 = .ok (.invokevirtual 251, 3) := by decide +kernel
theorem dX7_whyNot_9 : decode cX7_whyNot 9 = .ok (.ireturn, 1) := by decide +kernel
theorem dX7_whyNotMultiply_0 : decode cX7_whyNotMultiply 0 = .ok (.aload_n 0, 1) := by decide +kernel
theorem dX7_whyNotMultiply_1 : decode cX7_whyNotMultiply 1 = .ok (.iload_n 1, 1) := by decide +kernel
theorem dX7_whyNotMultiply_2 : decode cX7_whyNotMultiply 2 = .ok (.invokevirtual 118, 3) := by decide +kernel
theorem dX7_whyNotMultiply_5 : decode cX7_whyNotMultiply 5 = .ok (.aload_n 0, 1) := by decide +kernel
theorem dX7_whyNotMultiply_6 : decode cX7_whyNotMultiply 6 = .ok (.getfield 12, 3) := by decide +kernel
theorem dX7_whyNotMultiply_9 : decode cX7_whyNotMultiply 9 = .ok (.aload_n 0, 1) := by decide +kernel
theorem dX7_whyNotMultiply_10 : decode cX7_whyNotMultiply 10 = .ok (.getfield 16, 3) := by decide +kernel
theorem dX7_whyNotMultiply_13 : decode cX7_whyNotMultiply 13 = .ok (.iload_n 1, 1) := by decide +kernel
theorem dX7_whyNotMultiply_14 : decode cX7_whyNotMultiply 14 = .ok (.aaload, 1) := by decide +kernel
theorem dX7_whyNotMultiply_15 : decode cX7_whyNotMultiply 15 = .ok (.invokestatic 121, 3) := by decide +kernel
theorem dX7_whyNotMultiply_18 : decode cX7_whyNotMultiply 18 = .ok (.ireturn, 1) := by decide +kernel
theorem dX7_bestHandle_0 : decode cX7_bestHandle 0 = .ok (.iload_n 1, 1) := by decide +kernel
theorem dX7_bestHandle_1 : decode cX7_bestHandle 1 = .ok (.invokestatic 164, 3) := by decide +kernel
theorem dX7_bestHandle_4 : decode cX7_bestHandle 4 = .ok (.iload_n 2, 1) := by decide +kernel
theorem dX7_bestHandle_5 : decode cX7_bestHandle 5 = .ok (.ifCond .lt 20, 3) := by decide +kernel
theorem dX7_bestHandle_8 : decode cX7_bestHandle 8 = .ok (.iload_n 2, 1) := by decide +kernel
theorem dX7_bestHandle_9 : decode cX7_bestHandle 9 = .ok (.bipush 13, 2) := by decide +kernel
theorem dX7_bestHandle_11 : decode cX7_bestHandle 11 = .ok (.if_icmp .gt 14, 3) := by decide +kernel
theorem dX7_bestHandle_14 : decode cX7_bestHandle 14 = .ok (.iload_n 2, 1) := by decide +kernel
theorem dX7_bestHandle_15 : decode cX7_bestHandle 15 = .ok (.iconst 1, 1) := by decide +kernel
theorem dX7_bestHandle_16 : decode cX7_bestHandle 16 = .ok (.if_icmp .le 19, 3) := by decide +kernel
theorem dX7_bestHandle_19 : decode cX7_bestHandle 19 = .ok (.iload_n 2, 1) := by decide +kernel
theorem dX7_bestHandle_20 : decode cX7_bestHandle 20 = .ok (.bipush 10, 2) := by decide +kernel
theorem dX7_bestHandle_22 : decode cX7_bestHandle 22 = .ok (.if_icmp .ge 13, 3) := by decide +kernel
theorem dX7_bestHandle_25 : decode cX7_bestHandle 25 = .ok (.new 70, 3) := by decide +kernel
theorem dX7_bestHandle_28 : decode cX7_bestHandle 28 = .ok (.dup, 1) := by decide +kernel
theorem dX7_bestHandle_29 : decode cX7_bestHandle 29 = .ok (.ldc 254, 2) := by decide +kernel
theorem dX7_bestHandle_31 : decode cX7_bestHandle 31 = .ok (.invokespecial 74, 3) := by decide +kernel
theorem dX7_bestHandle_34 : decode cX7_bestHandle 34 = .ok (.athrow, 1) := by decide +kernel
theorem dX7_bestHandle_35 : decode cX7_bestHandle 35 = .ok (.aload_n 0, 1) := by decide +kernel
theorem dX7_bestHandle_36 : decode cX7_bestHandle 36 = .ok (.getfield 62, 3) := by decide +kernel
theorem dX7_bestHandle_39 : decode cX7_bestHandle 39 = .ok (.aload_n 0, 1) := by decide +kernel
theorem dX7_bestHandle_40 : decode cX7_bestHandle 40 = .ok (.getfield 12, 3) := by decide +kernel
theorem dX7_bestHandle_43 : decode cX7_bestHandle 43 = .ok (.iload_n 1, 1) := by decide +kernel
theorem dX7_bestHandle_44 : decode cX7_bestHandle 44 = .ok (.invokevirtual 167, 3) := by decide +kernel
theorem dX7_bestHandle_47 : decode cX7_bestHandle 47 = .ok (.aload_n 0, 1) := by decide +kernel
theorem dX7_bestHandle_48 : decode cX7_bestHandle 48 = .ok (.getfield 62, 3) := by decide +kernel
theorem dX7_bestHandle_51 : decode cX7_bestHandle 51 = .ok (.iload_n 2, 1) := by decide +kernel
theorem dX7_bestHandle_52 : decode cX7_bestHandle 52 = .ok (.invokevirtual 256, 3) := by decide +kernel
theorem dX7_bestHandle_55 : decode cX7_bestHandle 55 = .ok (.lreturn, 1) := by decide +kernel
theorem dX7_count_0 : decode cX7_count 0 = .ok (.iload_n 1, 1) := by decide +kernel
theorem dX7_count_1 : decode cX7_count 1 = .ok (.ifCond .lt 9, 3) := by decide +kernel
theorem dX7_count_4 : decode cX7_count 4 = .ok (.iload_n 1, 1) := by decide +kernel
theorem dX7_count_5 : decode cX7_count 5 = .ok (.bipush 11, 2) := by decide +kernel
theorem dX7_count_7 : decode cX7_count 7 = .ok (.if_icmp .le 14, 3) := by decide +kernel
theorem dX7_count_10 : decode cX7_count 10 = .ok (.new 70, 3) := by decide +kernel
theorem dX7_count_13 : decode cX7_count 13 = .ok (.dup, 1) := by decide +kernel
theorem dX7_count_14 : decode cX7_count 14 = .ok (.ldc_w 259, 3) := by decide +kernel
theorem dX7_count_17 : decode cX7_count 17 = .ok (.invokespecial 74, 3) := by decide +kernel
theorem dX7_count_20 : decode cX7_count 20 = .ok (.athrow, 1) := by decide +kernel
theorem dX7_count_21 : decode cX7_count 21 = .ok (.aload_n 0, 1) := by decide +kernel
theorem dX7_count_22 : decode cX7_count 22 = .ok (.invokevirtual 234, 3) := by decide +kernel
theorem dX7_count_25 : decode cX7_count 25 = .ok (.aload_n 0, 1) := by decide +kernel
theorem dX7_count_26 : decode cX7_count 26 = .ok (.iload_n 1, 1) := by decide +kernel
theorem dX7_count_27 : decode cX7_count 27 = .ok (.invokevirtual 261, 3) := by decide +kernel
theorem dX7_count_30 : decode cX7_count 30 = .ok (.ireturn, 1) := by decide +kernel
theorem dX7_nearness_0 : decode cX7_nearness 0 = .ok (.aload_n 0, 1) := by decide +kernel
theorem dX7_nearness_1 : decode cX7_nearness 1 = .ok (.invokevirtual 234, 3) := by decide +kernel
theorem dX7_nearness_4 : decode cX7_nearness 4 = .ok (.aload_n 0, 1) := by decide +kernel
theorem dX7_nearness_5 : decode cX7_nearness 5 = .ok (.invokevirtual 264, 3) := by decide +kernel
theorem dX7_nearness_8 : decode cX7_nearness 8 = .ok (.dreturn, 1) := by decide +kernel
theorem dX7_digest_0 : decode cX7_digest 0 = .ok (.aload_n 0, 1) := by decide +kernel
theorem dX7_digest_1 : decode cX7_digest 1 = .ok (.invokevirtual 234, 3) := by decide +kernel
theorem dX7_digest_4 : decode cX7_digest 4 = .ok (.ldc2_w 268, 3) := by decide +kernel
theorem dX7_digest_7 : decode cX7_digest 7 = .ok (.lstore_n 1, 1) := by decide +kernel
theorem dX7_digest_8 : decode cX7_digest 8 = .ok (.iconst 0, 1) := by decide +kernel
theorem dX7_digest_9 : decode cX7_digest 9 = .ok (.istore_n 3, 1) := by decide +kernel
theorem dX7_digest_10 : decode cX7_digest 10 = .ok (.iload_n 3, 1) := by decide +kernel
theorem dX7_digest_11 : decode cX7_digest 11 = .ok (.bipush 11, 2) := by decide +kernel
theorem dX7_digest_13 : decode cX7_digest 13 = .ok (.if_icmp .gt 20, 3) := by decide +kernel
theorem dX7_digest_16 : decode cX7_digest 16 = .ok (.lload_n 1, 1) := by decide +kernel
theorem dX7_digest_17 : decode cX7_digest 17 = .ok (.aload_n 0, 1) := by decide +kernel
theorem dX7_digest_18 : decode cX7_digest 18 = .ok (.iload_n 3, 1) := by decide +kernel
theorem dX7_digest_19 : decode cX7_digest 19 = .ok (.invokevirtual 261, 3) := by decide +kernel
theorem dX7_digest_22 : decode cX7_digest 22 = .ok (.i2l, 1) := by decide +kernel
theorem dX7_digest_23 : decode cX7_digest 23 = .ok (.invokestatic 270, 3) := by decide +kernel
theorem dX7_digest_26 : decode cX7_digest 26 = .ok (.lstore_n 1, 1) := by decide +kernel
theorem dX7_digest_27 : decode cX7_digest 27 = .ok (.iinc 3 1, 3) := by decide +kernel
theorem dX7_digest_30 : decode cX7_digest 30 = .ok (.goto (-20), 3) := by decide +kernel
theorem dX7_digest_33 : decode cX7_digest 33 = .ok (.aload_n 0, 1) := by decide +kernel
theorem dX7_digest_34 : decode cX7_digest 34 = .ok (.lload_n 1, 1) := by decide +kernel
theorem dX7_digest_35 : decode cX7_digest 35 = .ok (.invokevirtual 274, 3) := by decide +kernel
theorem dX7_digest_38 : decode cX7_digest 38 = .ok (.lstore_n 1, 1) := by decide +kernel
theorem dX7_digest_39 : decode cX7_digest 39 = .ok (.iconst 0, 1) := by decide +kernel
theorem dX7_digest_40 : decode cX7_digest 40 = .ok (.istore_n 3, 1) := by decide +kernel
theorem dX7_digest_41 : decode cX7_digest 41 = .ok (.iload_n 3, 1) := by decide +kernel
theorem dX7_digest_42 : decode cX7_digest 42 = .ok (.aload_n 0, 1) := by decide +kernel
theorem dX7_digest_43 : decode cX7_digest 43 = .ok (.getfield 12, 3) := by decide +kernel
theorem dX7_digest_46 : decode cX7_digest 46 = .ok (.getfield 155, 3) := by decide +kernel
theorem dX7_digest_49 : decode cX7_digest 49 = .ok (.if_icmp .ge 24, 3) := by decide +kernel
theorem dX7_digest_52 : decode cX7_digest 52 = .ok (.lload_n 1, 1) := by decide +kernel
theorem dX7_digest_53 : decode cX7_digest 53 = .ok (.aload_n 0, 1) := by decide +kernel
theorem dX7_digest_54 : decode cX7_digest 54 = .ok (.getfield 12, 3) := by decide +kernel
theorem dX7_digest_57 : decode cX7_digest 57 = .ok (.getfield 145, 3) := by decide +kernel
theorem dX7_digest_60 : decode cX7_digest 60 = .ok (.iload_n 3, 1) := by decide +kernel
theorem dX7_digest_61 : decode cX7_digest 61 = .ok (.iaload, 1) := by decide +kernel
theorem dX7_digest_62 : decode cX7_digest 62 = .ok (.i2l, 1) := by decide +kernel
theorem dX7_digest_63 : decode cX7_digest 63 = .ok (.invokestatic 270, 3) := by decide +kernel
theorem dX7_digest_66 : decode cX7_digest 66 = .ok (.lstore_n 1, 1) := by decide +kernel
theorem dX7_digest_67 : decode cX7_digest 67 = .ok (.iinc 3 1, 3) := by decide +kernel
theorem dX7_digest_70 : decode cX7_digest 70 = .ok (.goto (-29), 3) := by decide +kernel
theorem dX7_digest_73 : decode cX7_digest 73 = .ok (.aload_n 0, 1) := by decide +kernel
theorem dX7_digest_74 : decode cX7_digest 74 = .ok (.lload_n 1, 1) := by decide +kernel
theorem dX7_digest_75 : decode cX7_digest 75 = .ok (.invokevirtual 278, 3) := by decide +kernel
theorem dX7_digest_78 : decode cX7_digest 78 = .ok (.lstore_n 1, 1) := by decide +kernel
theorem dX7_digest_79 : decode cX7_digest 79 = .ok (.lload_n 1, 1) := by decide +kernel
theorem dX7_digest_80 : decode cX7_digest 80 = .ok (.aload_n 0, 1) := by decide +kernel
theorem dX7_digest_81 : decode cX7_digest 81 = .ok (.invokevirtual 264, 3) := by decide +kernel
theorem dX7_digest_84 : decode cX7_digest 84 = .ok (.invokestatic 281, 3) := by decide +kernel
theorem dX7_digest_87 : decode cX7_digest 87 = .ok (.invokestatic 270, 3) := by decide +kernel
theorem dX7_digest_90 : decode cX7_digest 90 = .ok (.lstore_n 1, 1) := by decide +kernel
theorem dX7_digest_91 : decode cX7_digest 91 = .ok (.lload_n 1, 1) := by decide +kernel
theorem dX7_digest_92 : decode cX7_digest 92 = .ok (.aload_n 0, 1) := by decide +kernel
theorem dX7_digest_93 : decode cX7_digest 93 = .ok (.getfield 34, 3) := by decide +kernel
theorem dX7_digest_96 : decode cX7_digest 96 = .ok (.getfield 189, 3) := by decide +kernel
theorem dX7_digest_99 : decode cX7_digest 99 = .ok (.i2l, 1) := by decide +kernel
theorem dX7_digest_100 : decode cX7_digest 100 = .ok (.invokestatic 270, 3) := by decide +kernel
theorem dX7_digest_103 : decode cX7_digest 103 = .ok (.lstore_n 1, 1) := by decide +kernel
theorem dX7_digest_104 : decode cX7_digest 104 = .ok (.iconst 0, 1) := by decide +kernel
theorem dX7_digest_105 : decode cX7_digest 105 = .ok (.istore_n 3, 1) := by decide +kernel
theorem dX7_digest_106 : decode cX7_digest 106 = .ok (.iload_n 3, 1) := by decide +kernel
theorem dX7_digest_107 : decode cX7_digest 107 = .ok (.aload_n 0, 1) := by decide +kernel
theorem dX7_digest_108 : decode cX7_digest 108 = .ok (.getfield 34, 3) := by decide +kernel
theorem dX7_digest_111 : decode cX7_digest 111 = .ok (.getfield 189, 3) := by decide +kernel
theorem dX7_digest_114 : decode cX7_digest 114 = .ok (.if_icmp .ge 24, 3) := by decide +kernel
theorem dX7_digest_117 : decode cX7_digest 117 = .ok (.lload_n 1, 1) := by decide +kernel
theorem dX7_digest_118 : decode cX7_digest 118 = .ok (.aload_n 0, 1) := by decide +kernel
theorem dX7_digest_119 : decode cX7_digest 119 = .ok (.getfield 34, 3) := by decide +kernel
theorem dX7_digest_122 : decode cX7_digest 122 = .ok (.getfield 194, 3) := by decide +kernel
theorem dX7_digest_125 : decode cX7_digest 125 = .ok (.iload_n 3, 1) := by decide +kernel
theorem dX7_digest_126 : decode cX7_digest 126 = .ok (.caload, 1) := by decide +kernel
theorem dX7_digest_127 : decode cX7_digest 127 = .ok (.i2l, 1) := by decide +kernel
theorem dX7_digest_128 : decode cX7_digest 128 = .ok (.invokestatic 270, 3) := by decide +kernel
theorem dX7_digest_131 : decode cX7_digest 131 = .ok (.lstore_n 1, 1) := by decide +kernel
theorem dX7_digest_132 : decode cX7_digest 132 = .ok (.iinc 3 1, 3) := by decide +kernel
theorem dX7_digest_135 : decode cX7_digest 135 = .ok (.goto (-29), 3) := by decide +kernel
theorem dX7_digest_138 : decode cX7_digest 138 = .ok (.lload_n 1, 1) := by decide +kernel
theorem dX7_digest_139 : decode cX7_digest 139 = .ok (.lreturn, 1) := by decide +kernel
theorem dX7_checkVertex_0 : decode cX7_checkVertex 0 = .ok (.iload_n 1, 1) := by decide +kernel
theorem dX7_checkVertex_1 : decode cX7_checkVertex 1 = .ok (.ifCond .lt 14, 3) := by decide +kernel
theorem dX7_checkVertex_4 : decode cX7_checkVertex 4 = .ok (.iload_n 1, 1) := by decide +kernel
theorem dX7_checkVertex_5 : decode cX7_checkVertex 5 = .ok (.aload_n 0, 1) := by decide +kernel
theorem dX7_checkVertex_6 : decode cX7_checkVertex 6 = .ok (.getfield 12, 3) := by decide +kernel
theorem dX7_checkVertex_9 : decode cX7_checkVertex 9 = .ok (.getfield 77, 3) := by decide +kernel
theorem dX7_checkVertex_12 : decode cX7_checkVertex 12 = .ok (.if_icmp .lt 14, 3) := by decide +kernel
theorem dX7_checkVertex_15 : decode cX7_checkVertex 15 = .ok (.new 285, 3) := by decide +kernel
theorem dX7_checkVertex_18 : decode cX7_checkVertex 18 = .ok (.dup, 1) := by decide +kernel
theorem dX7_checkVertex_19 : decode cX7_checkVertex 19 = .ok (.ldc_w 287, 3) := by decide +kernel
theorem dX7_checkVertex_22 : decode cX7_checkVertex 22 = .ok (.invokespecial 289, 3) := by decide +kernel
theorem dX7_checkVertex_25 : decode cX7_checkVertex 25 = .ok (.athrow, 1) := by decide +kernel
theorem dX7_checkVertex_26 : decode cX7_checkVertex 26 = .ok (.return_, 1) := by decide +kernel
theorem dX7_checkPlace_0 : decode cX7_checkPlace 0 = .ok (.iload_n 1, 1) := by decide +kernel
theorem dX7_checkPlace_1 : decode cX7_checkPlace 1 = .ok (.ifCond .lt 14, 3) := by decide +kernel
theorem dX7_checkPlace_4 : decode cX7_checkPlace 4 = .ok (.iload_n 1, 1) := by decide +kernel
theorem dX7_checkPlace_5 : decode cX7_checkPlace 5 = .ok (.aload_n 0, 1) := by decide +kernel
theorem dX7_checkPlace_6 : decode cX7_checkPlace 6 = .ok (.getfield 12, 3) := by decide +kernel
theorem dX7_checkPlace_9 : decode cX7_checkPlace 9 = .ok (.getfield 155, 3) := by decide +kernel
theorem dX7_checkPlace_12 : decode cX7_checkPlace 12 = .ok (.if_icmp .lt 14, 3) := by decide +kernel
theorem dX7_checkPlace_15 : decode cX7_checkPlace 15 = .ok (.new 285, 3) := by decide +kernel
theorem dX7_checkPlace_18 : decode cX7_checkPlace 18 = .ok (.dup, 1) := by decide +kernel
theorem dX7_checkPlace_19 : decode cX7_checkPlace 19 = .ok (.ldc_w 290, 3) := by decide +kernel
theorem dX7_checkPlace_22 : decode cX7_checkPlace 22 = .ok (.invokespecial 289, 3) := by decide +kernel
theorem dX7_checkPlace_25 : decode cX7_checkPlace 25 = .ok (.athrow, 1) := by decide +kernel
theorem dX7_checkPlace_26 : decode cX7_checkPlace 26 = .ok (.return_, 1) := by decide +kernel
theorem dX7_checkSnapshot_0 : decode cX7_checkSnapshot 0 = .ok (.iload_n 1, 1) := by decide +kernel
theorem dX7_checkSnapshot_1 : decode cX7_checkSnapshot 1 = .ok (.ifCond .lt 8, 3) := by decide +kernel
theorem dX7_checkSnapshot_4 : decode cX7_checkSnapshot 4 = .ok (.iload_n 1, 1) := by decide +kernel
theorem dX7_checkSnapshot_5 : decode cX7_checkSnapshot 5 = .ok (.iconst 2, 1) := by decide +kernel
theorem dX7_checkSnapshot_6 : decode cX7_checkSnapshot 6 = .ok (.if_icmp .lt 14, 3) := by decide +kernel
theorem dX7_checkSnapshot_9 : decode cX7_checkSnapshot 9 = .ok (.new 285, 3) := by decide +kernel
theorem dX7_checkSnapshot_12 : decode cX7_checkSnapshot 12 = .ok (.dup, 1) := by decide +kernel
theorem dX7_checkSnapshot_13 : decode cX7_checkSnapshot 13 = .ok (.ldc_w 292, 3) := by decide +kernel
theorem dX7_checkSnapshot_16 : decode cX7_checkSnapshot 16 = .ok (.invokespecial 289, 3) := by decide +kernel
theorem dX7_checkSnapshot_19 : decode cX7_checkSnapshot 19 = .ok (.athrow, 1) := by decide +kernel
theorem dX7_checkSnapshot_20 : decode cX7_checkSnapshot 20 = .ok (.return_, 1) := by decide +kernel
theorem dX7_checkTaken_0 : decode cX7_checkTaken 0 = .ok (.aload_n 0, 1) := by decide +kernel
theorem dX7_checkTaken_1 : decode cX7_checkTaken 1 = .ok (.iload_n 1, 1) := by decide +kernel
theorem dX7_checkTaken_2 : decode cX7_checkTaken 2 = .ok (.invokevirtual 211, 3) := by decide +kernel
theorem dX7_checkTaken_5 : decode cX7_checkTaken 5 = .ok (.aload_n 0, 1) := by decide +kernel
theorem dX7_checkTaken_6 : decode cX7_checkTaken 6 = .ok (.getfield 20, 3) := by decide +kernel
theorem dX7_checkTaken_9 : decode cX7_checkTaken 9 = .ok (.iload_n 1, 1) := by decide +kernel
theorem dX7_checkTaken_10 : decode cX7_checkTaken 10 = .ok (.baload, 1) := by decide +kernel
theorem dX7_checkTaken_11 : decode cX7_checkTaken 11 = .ok (.ifCond .ne 14, 3) := by decide +kernel
theorem dX7_checkTaken_14 : decode cX7_checkTaken 14 = .ok (.new 110, 3) := by decide +kernel
theorem dX7_checkTaken_17 : decode cX7_checkTaken 17 = .ok (.dup, 1) := by decide +kernel
theorem dX7_checkTaken_18 : decode cX7_checkTaken 18 = .ok (.ldc_w 294, 3) := by decide +kernel
theorem dX7_checkTaken_21 : decode cX7_checkTaken 21 = .ok (.invokespecial 114, 3) := by decide +kernel
theorem dX7_checkTaken_24 : decode cX7_checkTaken 24 = .ok (.athrow, 1) := by decide +kernel
theorem dX7_checkTaken_25 : decode cX7_checkTaken 25 = .ok (.return_, 1) := by decide +kernel
theorem dX7_checkNumber_0 : decode cX7_checkNumber 0 = .ok (.iload_n 0, 1) := by decide +kernel
theorem dX7_checkNumber_1 : decode cX7_checkNumber 1 = .ok (.bipush (-9), 2) := by decide +kernel
theorem dX7_checkNumber_3 : decode cX7_checkNumber 3 = .ok (.if_icmp .lt 9, 3) := by decide +kernel
theorem dX7_checkNumber_6 : decode cX7_checkNumber 6 = .ok (.iload_n 0, 1) := by decide +kernel
theorem dX7_checkNumber_7 : decode cX7_checkNumber 7 = .ok (.bipush 9, 2) := by decide +kernel
theorem dX7_checkNumber_9 : decode cX7_checkNumber 9 = .ok (.if_icmp .le 14, 3) := by decide +kernel
theorem dX7_checkNumber_12 : decode cX7_checkNumber 12 = .ok (.new 70, 3) := by decide +kernel
theorem dX7_checkNumber_15 : decode cX7_checkNumber 15 = .ok (.dup, 1) := by decide +kernel
theorem dX7_checkNumber_16 : decode cX7_checkNumber 16 = .ok (.ldc_w 296, 3) := by decide +kernel
theorem dX7_checkNumber_19 : decode cX7_checkNumber 19 = .ok (.invokespecial 74, 3) := by decide +kernel
theorem dX7_checkNumber_22 : decode cX7_checkNumber 22 = .ok (.athrow, 1) := by decide +kernel
theorem dX7_checkNumber_23 : decode cX7_checkNumber 23 = .ok (.return_, 1) := by decide +kernel
theorem dX7_checkSize_0 : decode cX7_checkSize 0 = .ok (.iload_n 0, 1) := by decide +kernel
theorem dX7_checkSize_1 : decode cX7_checkSize 1 = .ok (.iconst 1, 1) := by decide +kernel
theorem dX7_checkSize_2 : decode cX7_checkSize 2 = .ok (.if_icmp .lt 8, 3) := by decide +kernel
theorem dX7_checkSize_5 : decode cX7_checkSize 5 = .ok (.iload_n 0, 1) := by decide +kernel
theorem dX7_checkSize_6 : decode cX7_checkSize 6 = .ok (.iconst 2, 1) := by decide +kernel
theorem dX7_checkSize_7 : decode cX7_checkSize 7 = .ok (.if_icmp .le 14, 3) := by decide +kernel
theorem dX7_checkSize_10 : decode cX7_checkSize 10 = .ok (.new 70, 3) := by decide +kernel
theorem dX7_checkSize_13 : decode cX7_checkSize 13 = .ok (.dup, 1) := by decide +kernel
theorem dX7_checkSize_14 : decode cX7_checkSize 14 = .ok (.ldc_w 298, 3) := by decide +kernel
theorem dX7_checkSize_17 : decode cX7_checkSize 17 = .ok (.invokespecial 74, 3) := by decide +kernel
theorem dX7_checkSize_20 : decode cX7_checkSize 20 = .ok (.athrow, 1) := by decide +kernel
theorem dX7_checkSize_21 : decode cX7_checkSize 21 = .ok (.return_, 1) := by decide +kernel
theorem dX7_checkPart_0 : decode cX7_checkPart 0 = .ok (.iload_n 0, 1) := by decide +kernel
theorem dX7_checkPart_1 : decode cX7_checkPart 1 = .ok (.ifCond .lt 8, 3) := by decide +kernel
theorem dX7_checkPart_4 : decode cX7_checkPart 4 = .ok (.iload_n 0, 1) := by decide +kernel
theorem dX7_checkPart_5 : decode cX7_checkPart 5 = .ok (.iconst 2, 1) := by decide +kernel
theorem dX7_checkPart_6 : decode cX7_checkPart 6 = .ok (.if_icmp .le 14, 3) := by decide +kernel
theorem dX7_checkPart_9 : decode cX7_checkPart 9 = .ok (.new 70, 3) := by decide +kernel
theorem dX7_checkPart_12 : decode cX7_checkPart 12 = .ok (.dup, 1) := by decide +kernel
theorem dX7_checkPart_13 : decode cX7_checkPart 13 = .ok (.ldc_w 300, 3) := by decide +kernel
theorem dX7_checkPart_16 : decode cX7_checkPart 16 = .ok (.invokespecial 74, 3) := by decide +kernel
theorem dX7_checkPart_19 : decode cX7_checkPart 19 = .ok (.athrow, 1) := by decide +kernel
theorem dX7_checkPart_20 : decode cX7_checkPart 20 = .ok (.return_, 1) := by decide +kernel
theorem dX7_saveState_0 : decode cX7_saveState 0 = .ok (.aload_n 0, 1) := by decide +kernel
theorem dX7_saveState_1 : decode cX7_saveState 1 = .ok (.getfield 27, 3) := by decide +kernel
theorem dX7_saveState_4 : decode cX7_saveState 4 = .ok (.aload_n 0, 1) := by decide +kernel
theorem dX7_saveState_5 : decode cX7_saveState 5 = .ok (.getfield 12, 3) := by decide +kernel
theorem dX7_saveState_8 : decode cX7_saveState 8 = .ok (.aload_n 0, 1) := by decide +kernel
theorem dX7_saveState_9 : decode cX7_saveState 9 = .ok (.getfield 66, 3) := by decide +kernel
theorem dX7_saveState_12 : decode cX7_saveState 12 = .ok (.invokevirtual 302, 3) := by decide +kernel
theorem dX7_saveState_15 : decode cX7_saveState 15 = .ok (.return_, 1) := by decide +kernel
theorem dX7_searchGraph_0 : decode cX7_searchGraph 0 = .ok (.aload_n 0, 1) := by decide +kernel
theorem dX7_searchGraph_1 : decode cX7_searchGraph 1 = .ok (.getfield 41, 3) := by decide +kernel
theorem dX7_searchGraph_4 : decode cX7_searchGraph 4 = .ok (.aload_n 0, 1) := by decide +kernel
theorem dX7_searchGraph_5 : decode cX7_searchGraph 5 = .ok (.getfield 12, 3) := by decide +kernel
theorem dX7_searchGraph_8 : decode cX7_searchGraph 8 = .ok (.invokevirtual 148, 3) := by decide +kernel
theorem dX7_searchGraph_11 : decode cX7_searchGraph 11 = .ok (.aload_n 0, 1) := by decide +kernel
theorem dX7_searchGraph_12 : decode cX7_searchGraph 12 = .ok (.getfield 48, 3) := by decide +kernel
theorem dX7_searchGraph_15 : decode cX7_searchGraph 15 = .ok (.aload_n 0, 1) := by decide +kernel
theorem dX7_searchGraph_16 : decode cX7_searchGraph 16 = .ok (.getfield 12, 3) := by decide +kernel
theorem dX7_searchGraph_19 : decode cX7_searchGraph 19 = .ok (.invokevirtual 305, 3) := by decide +kernel
theorem dX7_searchGraph_22 : decode cX7_searchGraph 22 = .ok (.return_, 1) := by decide +kernel
theorem dX7_propertyOf_0 : decode cX7_propertyOf 0 = .ok (.iload_n 2, 1) := by decide +kernel
theorem dX7_propertyOf_1 : decode cX7_propertyOf 1 = .ok (.tableswitch 132 0 5 #[39, 49, 62, 84, 104, 114], 39) := by decide +kernel
theorem dX7_propertyOf_40 : decode cX7_propertyOf 40 = .ok (.aload_n 0, 1) := by decide +kernel
theorem dX7_propertyOf_41 : decode cX7_propertyOf 41 = .ok (.getfield 12, 3) := by decide +kernel
theorem dX7_propertyOf_44 : decode cX7_propertyOf 44 = .ok (.getfield 103, 3) := by decide +kernel
theorem dX7_propertyOf_47 : decode cX7_propertyOf 47 = .ok (.iload_n 1, 1) := by decide +kernel
theorem dX7_propertyOf_48 : decode cX7_propertyOf 48 = .ok (.iaload, 1) := by decide +kernel
theorem dX7_propertyOf_49 : decode cX7_propertyOf 49 = .ok (.ireturn, 1) := by decide +kernel
theorem dX7_propertyOf_50 : decode cX7_propertyOf 50 = .ok (.aload_n 0, 1) := by decide +kernel
theorem dX7_propertyOf_51 : decode cX7_propertyOf 51 = .ok (.getfield 12, 3) := by decide +kernel
theorem dX7_propertyOf_54 : decode cX7_propertyOf 54 = .ok (.getfield 306, 3) := by decide +kernel
theorem dX7_propertyOf_57 : decode cX7_propertyOf 57 = .ok (.iload_n 1, 1) := by decide +kernel
theorem dX7_propertyOf_58 : decode cX7_propertyOf 58 = .ok (.iaload, 1) := by decide +kernel
theorem dX7_propertyOf_59 : decode cX7_propertyOf 59 = .ok (.invokestatic 309, 3) := by decide +kernel
theorem dX7_propertyOf_62 : decode cX7_propertyOf 62 = .ok (.ireturn, 1) := by decide +kernel
theorem dX7_propertyOf_63 : decode cX7_propertyOf 63 = .ok (.aload_n 0, 1) := by decide +kernel
theorem dX7_propertyOf_64 : decode cX7_propertyOf 64 = .ok (.getfield 12, 3) := by decide +kernel
theorem dX7_propertyOf_67 : decode cX7_propertyOf 67 = .ok (.getfield 141, 3) := by decide +kernel
theorem dX7_propertyOf_70 : decode cX7_propertyOf 70 = .ok (.iload_n 1, 1) := by decide +kernel
theorem dX7_propertyOf_71 : decode cX7_propertyOf 71 = .ok (.aaload, 1) := by decide +kernel
theorem dX7_propertyOf_72 : decode cX7_propertyOf 72 = .ok (.aload_n 0, 1) := by decide +kernel
theorem dX7_propertyOf_73 : decode cX7_propertyOf 73 = .ok (.getfield 12, 3) := by decide +kernel
theorem dX7_propertyOf_76 : decode cX7_propertyOf 76 = .ok (.getfield 141, 3) := by decide +kernel
theorem dX7_propertyOf_79 : decode cX7_propertyOf 79 = .ok (.iload_n 1, 1) := by decide +kernel
theorem dX7_propertyOf_80 : decode cX7_propertyOf 80 = .ok (.aaload, 1) := by decide +kernel
theorem dX7_propertyOf_81 : decode cX7_propertyOf 81 = .ok (.invokestatic 314, 3) := by decide +kernel
theorem dX7_propertyOf_84 : decode cX7_propertyOf 84 = .ok (.ireturn, 1) := by decide +kernel
theorem dX7_propertyOf_85 : decode cX7_propertyOf 85 = .ok (.aload_n 0, 1) := by decide +kernel
theorem dX7_propertyOf_86 : decode cX7_propertyOf 86 = .ok (.getfield 12, 3) := by decide +kernel
theorem dX7_propertyOf_89 : decode cX7_propertyOf 89 = .ok (.getfield 141, 3) := by decide +kernel
theorem dX7_propertyOf_92 : decode cX7_propertyOf 92 = .ok (.iload_n 1, 1) := by decide +kernel
theorem dX7_propertyOf_93 : decode cX7_propertyOf 93 = .ok (.aaload, 1) := by decide +kernel
theorem dX7_propertyOf_94 : decode cX7_propertyOf 94 = .ok (.aload_n 0, 1) := by decide +kernel
theorem dX7_propertyOf_95 : decode cX7_propertyOf 95 = .ok (.getfield 12, 3) := by decide +kernel
theorem dX7_propertyOf_98 : decode cX7_propertyOf 98 = .ok (.getfield 145, 3) := by decide +kernel
theorem dX7_propertyOf_101 : decode cX7_propertyOf 101 = .ok (.invokestatic 314, 3) := by decide +kernel
theorem dX7_propertyOf_104 : decode cX7_propertyOf 104 = .ok (.ireturn, 1) := by decide +kernel
theorem dX7_propertyOf_105 : decode cX7_propertyOf 105 = .ok (.aload_n 0, 1) := by decide +kernel
theorem dX7_propertyOf_106 : decode cX7_propertyOf 106 = .ok (.getfield 41, 3) := by decide +kernel
theorem dX7_propertyOf_109 : decode cX7_propertyOf 109 = .ok (.getfield 318, 3) := by decide +kernel
theorem dX7_propertyOf_112 : decode cX7_propertyOf 112 = .ok (.iload_n 1, 1) := by decide +kernel
theorem dX7_propertyOf_113 : decode cX7_propertyOf 113 = .ok (.iaload, 1) := by decide +kernel
theorem dX7_propertyOf_114 : decode cX7_propertyOf 114 = .ok (.ireturn, 1) := by decide +kernel
theorem dX7_propertyOf_115 : decode cX7_propertyOf 115 = .ok (.aload_n 0, 1) := by decide +kernel
theorem dX7_propertyOf_116 : decode cX7_propertyOf 116 = .ok (.getfield 48, 3) := by decide +kernel
theorem dX7_propertyOf_119 : decode cX7_propertyOf 119 = .ok (.aload_n 0, 1) := by decide +kernel
theorem dX7_propertyOf_120 : decode cX7_propertyOf 120 = .ok (.getfield 48, 3) := by decide +kernel
theorem dX7_propertyOf_123 : decode cX7_propertyOf 123 = .ok (.iconst 1, 1) := by decide +kernel
theorem dX7_propertyOf_124 : decode cX7_propertyOf 124 = .ok (.iload_n 1, 1) := by decide +kernel
theorem dX7_propertyOf_125 : decode cX7_propertyOf 125 = .ok (.ishl, 1) := by decide +kernel
theorem dX7_propertyOf_126 : decode cX7_propertyOf 126 = .ok (.invokevirtual 321, 3) := by decide +kernel
theorem dX7_propertyOf_129 : decode cX7_propertyOf 129 = .ok (.invokevirtual 324, 3) := by decide +kernel
theorem dX7_propertyOf_132 : decode cX7_propertyOf 132 = .ok (.ireturn, 1) := by decide +kernel
theorem dX7_propertyOf_133 : decode cX7_propertyOf 133 = .ok (.aload_n 0, 1) := by decide +kernel
theorem dX7_propertyOf_134 : decode cX7_propertyOf 134 = .ok (.getfield 12, 3) := by decide +kernel
theorem dX7_propertyOf_137 : decode cX7_propertyOf 137 = .ok (.getfield 141, 3) := by decide +kernel
theorem dX7_propertyOf_140 : decode cX7_propertyOf 140 = .ok (.iload_n 1, 1) := by decide +kernel
theorem dX7_propertyOf_141 : decode cX7_propertyOf 141 = .ok (.aaload, 1) := by decide +kernel
theorem dX7_propertyOf_142 : decode cX7_propertyOf 142 = .ok (.iload_n 2, 1) := by decide +kernel
theorem dX7_propertyOf_143 : decode cX7_propertyOf 143 = .ok (.bipush 10, 2) := by decide +kernel
theorem dX7_propertyOf_145 : decode cX7_propertyOf 145 = .ok (.isub, 1) := by decide +kernel
theorem dX7_propertyOf_146 : decode cX7_propertyOf 146 = .ok (.iaload, 1) := by decide +kernel
theorem dX7_propertyOf_147 : decode cX7_propertyOf 147 = .ok (.ireturn, 1) := by decide +kernel
theorem dX7_numberOf_0 : decode cX7_numberOf 0 = .ok (.iload_n 1, 1) := by decide +kernel
theorem dX7_numberOf_1 : decode cX7_numberOf 1 = .ok (.tableswitch 160 0 10 #[59, 67, 75, 83, 99, 108, 116, 124, 132, 150, 155], 59) := by decide +kernel
theorem dX7_numberOf_60 : decode cX7_numberOf 60 = .ok (.aload_n 0, 1) := by decide +kernel
theorem dX7_numberOf_61 : decode cX7_numberOf 61 = .ok (.getfield 12, 3) := by decide +kernel
theorem dX7_numberOf_64 : decode cX7_numberOf 64 = .ok (.getfield 77, 3) := by decide +kernel
theorem dX7_numberOf_67 : decode cX7_numberOf 67 = .ok (.ireturn, 1) := by decide +kernel
theorem dX7_numberOf_68 : decode cX7_numberOf 68 = .ok (.aload_n 0, 1) := by decide +kernel
theorem dX7_numberOf_69 : decode cX7_numberOf 69 = .ok (.getfield 12, 3) := by decide +kernel
theorem dX7_numberOf_72 : decode cX7_numberOf 72 = .ok (.getfield 155, 3) := by decide +kernel
theorem dX7_numberOf_75 : decode cX7_numberOf 75 = .ok (.ireturn, 1) := by decide +kernel
theorem dX7_numberOf_76 : decode cX7_numberOf 76 = .ok (.aload_n 0, 1) := by decide +kernel
theorem dX7_numberOf_77 : decode cX7_numberOf 77 = .ok (.getfield 12, 3) := by decide +kernel
theorem dX7_numberOf_80 : decode cX7_numberOf 80 = .ok (.invokevirtual 97, 3) := by decide +kernel
theorem dX7_numberOf_83 : decode cX7_numberOf 83 = .ok (.ireturn, 1) := by decide +kernel
theorem dX7_numberOf_84 : decode cX7_numberOf 84 = .ok (.aload_n 0, 1) := by decide +kernel
theorem dX7_numberOf_85 : decode cX7_numberOf 85 = .ok (.getfield 48, 3) := by decide +kernel
theorem dX7_numberOf_88 : decode cX7_numberOf 88 = .ok (.aload_n 0, 1) := by decide +kernel
theorem dX7_numberOf_89 : decode cX7_numberOf 89 = .ok (.getfield 48, 3) := by decide +kernel
theorem dX7_numberOf_92 : decode cX7_numberOf 92 = .ok (.iconst 0, 1) := by decide +kernel
theorem dX7_numberOf_93 : decode cX7_numberOf 93 = .ok (.invokevirtual 321, 3) := by decide +kernel
theorem dX7_numberOf_96 : decode cX7_numberOf 96 = .ok (.invokevirtual 324, 3) := by decide +kernel
theorem dX7_numberOf_99 : decode cX7_numberOf 99 = .ok (.ireturn, 1) := by decide +kernel
theorem dX7_numberOf_100 : decode cX7_numberOf 100 = .ok (.aload_n 0, 1) := by decide +kernel
theorem dX7_numberOf_101 : decode cX7_numberOf 101 = .ok (.getfield 48, 3) := by decide +kernel
theorem dX7_numberOf_104 : decode cX7_numberOf 104 = .ok (.iconst 0, 1) := by decide +kernel
theorem dX7_numberOf_105 : decode cX7_numberOf 105 = .ok (.invokevirtual 321, 3) := by decide +kernel
theorem dX7_numberOf_108 : decode cX7_numberOf 108 = .ok (.ireturn, 1) := by decide +kernel
theorem dX7_numberOf_109 : decode cX7_numberOf 109 = .ok (.aload_n 0, 1) := by decide +kernel
theorem dX7_numberOf_110 : decode cX7_numberOf 110 = .ok (.getfield 48, 3) := by decide +kernel
theorem dX7_numberOf_113 : decode cX7_numberOf 113 = .ok (.invokevirtual 327, 3) := by decide +kernel
theorem dX7_numberOf_116 : decode cX7_numberOf 116 = .ok (.ireturn, 1) := by decide +kernel
theorem dX7_numberOf_117 : decode cX7_numberOf 117 = .ok (.aload_n 0, 1) := by decide +kernel
theorem dX7_numberOf_118 : decode cX7_numberOf 118 = .ok (.getfield 41, 3) := by decide +kernel
theorem dX7_numberOf_121 : decode cX7_numberOf 121 = .ok (.getfield 152, 3) := by decide +kernel
theorem dX7_numberOf_124 : decode cX7_numberOf 124 = .ok (.ireturn, 1) := by decide +kernel
theorem dX7_numberOf_125 : decode cX7_numberOf 125 = .ok (.aload_n 0, 1) := by decide +kernel
theorem dX7_numberOf_126 : decode cX7_numberOf 126 = .ok (.getfield 12, 3) := by decide +kernel
theorem dX7_numberOf_129 : decode cX7_numberOf 129 = .ok (.invokevirtual 330, 3) := by decide +kernel
theorem dX7_numberOf_132 : decode cX7_numberOf 132 = .ok (.ireturn, 1) := by decide +kernel
theorem dX7_numberOf_133 : decode cX7_numberOf 133 = .ok (.aload_n 0, 1) := by decide +kernel
theorem dX7_numberOf_134 : decode cX7_numberOf 134 = .ok (.getfield 12, 3) := by decide +kernel
theorem dX7_numberOf_137 : decode cX7_numberOf 137 = .ok (.getfield 145, 3) := by decide +kernel
theorem dX7_numberOf_140 : decode cX7_numberOf 140 = .ok (.aload_n 0, 1) := by decide +kernel
theorem dX7_numberOf_141 : decode cX7_numberOf 141 = .ok (.getfield 12, 3) := by decide +kernel
theorem dX7_numberOf_144 : decode cX7_numberOf 144 = .ok (.getfield 145, 3) := by decide +kernel
theorem dX7_numberOf_147 : decode cX7_numberOf 147 = .ok (.invokestatic 314, 3) := by decide +kernel
theorem dX7_numberOf_150 : decode cX7_numberOf 150 = .ok (.ireturn, 1) := by decide +kernel
theorem dX7_numberOf_151 : decode cX7_numberOf 151 = .ok (.aload_n 0, 1) := by decide +kernel
theorem dX7_numberOf_152 : decode cX7_numberOf 152 = .ok (.getfield 66, 3) := by decide +kernel
theorem dX7_numberOf_155 : decode cX7_numberOf 155 = .ok (.ireturn, 1) := by decide +kernel
theorem dX7_numberOf_156 : decode cX7_numberOf 156 = .ok (.aload_n 0, 1) := by decide +kernel
theorem dX7_numberOf_157 : decode cX7_numberOf 157 = .ok (.invokevirtual 333, 3) := by decide +kernel
theorem dX7_numberOf_160 : decode cX7_numberOf 160 = .ok (.ireturn, 1) := by decide +kernel
theorem dX7_numberOf_161 : decode cX7_numberOf 161 = .ok (.aload_n 0, 1) := by decide +kernel
theorem dX7_numberOf_162 : decode cX7_numberOf 162 = .ok (.getfield 27, 3) := by decide +kernel
theorem dX7_numberOf_165 : decode cX7_numberOf 165 = .ok (.getfield 217, 3) := by decide +kernel
theorem dX7_numberOf_168 : decode cX7_numberOf 168 = .ok (.ireturn, 1) := by decide +kernel
theorem dX7_takenSnapshots_0 : decode cX7_takenSnapshots 0 = .ok (.iconst 0, 1) := by decide +kernel
theorem dX7_takenSnapshots_1 : decode cX7_takenSnapshots 1 = .ok (.istore_n 1, 1) := by decide +kernel
theorem dX7_takenSnapshots_2 : decode cX7_takenSnapshots 2 = .ok (.iconst 0, 1) := by decide +kernel
theorem dX7_takenSnapshots_3 : decode cX7_takenSnapshots 3 = .ok (.istore_n 2, 1) := by decide +kernel
theorem dX7_takenSnapshots_4 : decode cX7_takenSnapshots 4 = .ok (.iload_n 2, 1) := by decide +kernel
theorem dX7_takenSnapshots_5 : decode cX7_takenSnapshots 5 = .ok (.iconst 2, 1) := by decide +kernel
theorem dX7_takenSnapshots_6 : decode cX7_takenSnapshots 6 = .ok (.if_icmp .ge 26, 3) := by decide +kernel
theorem dX7_takenSnapshots_9 : decode cX7_takenSnapshots 9 = .ok (.iload_n 1, 1) := by decide +kernel
theorem dX7_takenSnapshots_10 : decode cX7_takenSnapshots 10 = .ok (.aload_n 0, 1) := by decide +kernel
theorem dX7_takenSnapshots_11 : decode cX7_takenSnapshots 11 = .ok (.getfield 20, 3) := by decide +kernel
theorem dX7_takenSnapshots_14 : decode cX7_takenSnapshots 14 = .ok (.iload_n 2, 1) := by decide +kernel
theorem dX7_takenSnapshots_15 : decode cX7_takenSnapshots 15 = .ok (.baload, 1) := by decide +kernel
theorem dX7_takenSnapshots_16 : decode cX7_takenSnapshots 16 = .ok (.ifCond .eq 7, 3) := by decide +kernel
theorem dX7_takenSnapshots_19 : decode cX7_takenSnapshots 19 = .ok (.iconst 1, 1) := by decide +kernel
theorem dX7_takenSnapshots_20 : decode cX7_takenSnapshots 20 = .ok (.goto 4, 3) := by decide +kernel
theorem dX7_takenSnapshots_23 : decode cX7_takenSnapshots 23 = .ok (.iconst 0, 1) := by decide +kernel
theorem dX7_takenSnapshots_24 : decode cX7_takenSnapshots 24 = .ok (.iadd, 1) := by decide +kernel
theorem dX7_takenSnapshots_25 : decode cX7_takenSnapshots 25 = .ok (.istore_n 1, 1) := by decide +kernel
theorem dX7_takenSnapshots_26 : decode cX7_takenSnapshots 26 = .ok (.iinc 2 1, 3) := by decide +kernel
theorem dX7_takenSnapshots_29 : decode cX7_takenSnapshots 29 = .ok (.goto (-25), 3) := by decide +kernel
theorem dX7_takenSnapshots_32 : decode cX7_takenSnapshots 32 = .ok (.iload_n 1, 1) := by decide +kernel
theorem dX7_takenSnapshots_33 : decode cX7_takenSnapshots 33 = .ok (.ireturn, 1) := by decide +kernel
theorem dX7_share_0 : decode cX7_share 0 = .ok (.aload_n 0, 1) := by decide +kernel
theorem dX7_share_1 : decode cX7_share 1 = .ok (.getfield 55, 3) := by decide +kernel
theorem dX7_share_4 : decode cX7_share 4 = .ok (.aload_n 0, 1) := by decide +kernel
theorem dX7_share_5 : decode cX7_share 5 = .ok (.getfield 12, 3) := by decide +kernel
theorem dX7_share_8 : decode cX7_share 8 = .ok (.invokevirtual 244, 3) := by decide +kernel
theorem dX7_share_11 : decode cX7_share 11 = .ok (.aload_n 0, 1) := by decide +kernel
theorem dX7_share_12 : decode cX7_share 12 = .ok (.getfield 55, 3) := by decide +kernel
theorem dX7_share_15 : decode cX7_share 15 = .ok (.getfield 336, 3) := by decide +kernel
theorem dX7_share_18 : decode cX7_share 18 = .ok (.lconst 0, 1) := by decide +kernel
theorem dX7_share_19 : decode cX7_share 19 = .ok (.lcmp, 1) := by decide +kernel
theorem dX7_share_20 : decode cX7_share 20 = .ok (.ifCond .gt 5, 3) := by decide +kernel
theorem dX7_share_23 : decode cX7_share 23 = .ok (.dconst 0, 1) := by decide +kernel
theorem dX7_share_24 : decode cX7_share 24 = .ok (.dreturn, 1) := by decide +kernel
theorem dX7_share_25 : decode cX7_share 25 = .ok (.aload_n 0, 1) := by decide +kernel
theorem dX7_share_26 : decode cX7_share 26 = .ok (.getfield 48, 3) := by decide +kernel
theorem dX7_share_29 : decode cX7_share 29 = .ok (.aload_n 0, 1) := by decide +kernel
theorem dX7_share_30 : decode cX7_share 30 = .ok (.getfield 48, 3) := by decide +kernel
theorem dX7_share_33 : decode cX7_share 33 = .ok (.iconst 0, 1) := by decide +kernel
theorem dX7_share_34 : decode cX7_share 34 = .ok (.invokevirtual 321, 3) := by decide +kernel
theorem dX7_share_37 : decode cX7_share 37 = .ok (.invokevirtual 324, 3) := by decide +kernel
theorem dX7_share_40 : decode cX7_share 40 = .ok (.i2d, 1) := by decide +kernel
theorem dX7_share_41 : decode cX7_share 41 = .ok (.dstore_n 1, 1) := by decide +kernel
theorem dX7_share_42 : decode cX7_share 42 = .ok (.dload_n 1, 1) := by decide +kernel
theorem dX7_share_43 : decode cX7_share 43 = .ok (.aload_n 0, 1) := by decide +kernel
theorem dX7_share_44 : decode cX7_share 44 = .ok (.getfield 55, 3) := by decide +kernel
theorem dX7_share_47 : decode cX7_share 47 = .ok (.getfield 340, 3) := by decide +kernel
theorem dX7_share_50 : decode cX7_share 50 = .ok (.l2d, 1) := by decide +kernel
theorem dX7_share_51 : decode cX7_share 51 = .ok (.dmul, 1) := by decide +kernel
theorem dX7_share_52 : decode cX7_share 52 = .ok (.aload_n 0, 1) := by decide +kernel
theorem dX7_share_53 : decode cX7_share 53 = .ok (.getfield 55, 3) := by decide +kernel
theorem dX7_share_56 : decode cX7_share 56 = .ok (.getfield 336, 3) := by decide +kernel
theorem dX7_share_59 : decode cX7_share 59 = .ok (.l2d, 1) := by decide +kernel
theorem dX7_share_60 : decode cX7_share 60 = .ok (.ddiv, 1) := by decide +kernel
theorem dX7_share_61 : decode cX7_share 61 = .ok (.dreturn, 1) := by decide +kernel
theorem dX7_whyNoBound_0 : decode cX7_whyNoBound 0 = .ok (.aload_n 0, 1) := by decide +kernel
theorem dX7_whyNoBound_1 : decode cX7_whyNoBound 1 = .ok (.getfield 12, 3) := by decide +kernel
theorem dX7_whyNoBound_4 : decode cX7_whyNoBound 4 = .ok (.invokevirtual 343, 3) := by decide +kernel
theorem dX7_whyNoBound_7 : decode cX7_whyNoBound 7 = .ok (.istore_n 2, 1) := by decide +kernel
theorem dX7_whyNoBound_8 : decode cX7_whyNoBound 8 = .ok (.iload_n 2, 1) := by decide +kernel
theorem dX7_whyNoBound_9 : decode cX7_whyNoBound 9 = .ok (.iconst (-1), 1) := by decide +kernel
theorem dX7_whyNoBound_10 : decode cX7_whyNoBound 10 = .ok (.if_icmp .eq 29, 3) := by decide +kernel
theorem dX7_whyNoBound_13 : decode cX7_whyNoBound 13 = .ok (.iload_n 1, 1) := by decide +kernel
theorem dX7_whyNoBound_14 : decode cX7_whyNoBound 14 = .ok (.ifCond .ne 7, 3) := by decide +kernel
theorem dX7_whyNoBound_17 : decode cX7_whyNoBound 17 = .ok (.iconst 1, 1) := by decide +kernel
theorem dX7_whyNoBound_18 : decode cX7_whyNoBound 18 = .ok (.goto 20, 3) := by decide +kernel
theorem dX7_whyNoBound_21 : decode cX7_whyNoBound 21 = .ok (.iload_n 1, 1) := by decide +kernel
theorem dX7_whyNoBound_22 : decode cX7_whyNoBound 22 = .ok (.iconst 1, 1) := by decide +kernel
theorem dX7_whyNoBound_23 : decode cX7_whyNoBound 23 = .ok (.if_icmp .ne 7, 3) := by decide +kernel
theorem dX7_whyNoBound_26 : decode cX7_whyNoBound 26 = .ok (.iload_n 2, 1) := by decide +kernel
theorem dX7_whyNoBound_27 : decode cX7_whyNoBound 27 = .ok (.goto 11, 3) := by decide +kernel
theorem dX7_whyNoBound_30 : decode cX7_whyNoBound 30 = .ok (.aload_n 0, 1) := by decide +kernel
theorem dX7_whyNoBound_31 : decode cX7_whyNoBound 31 = .ok (.getfield 12, 3) := by decide +kernel
theorem dX7_whyNoBound_34 : decode cX7_whyNoBound 34 = .ok (.iload_n 2, 1) := by decide +kernel
theorem dX7_whyNoBound_35 : decode cX7_whyNoBound 35 = .ok (.invokevirtual 346, 3) := by decide +kernel
theorem dX7_whyNoBound_38 : decode cX7_whyNoBound 38 = .ok (.ireturn, 1) := by decide +kernel
theorem dX7_whyNoBound_39 : decode cX7_whyNoBound 39 = .ok (.aload_n 0, 1) := by decide +kernel
theorem dX7_whyNoBound_40 : decode cX7_whyNoBound 40 = .ok (.getfield 12, 3) := by decide +kernel
theorem dX7_whyNoBound_43 : decode cX7_whyNoBound 43 = .ok (.aload_n 0, 1) := by decide +kernel
theorem dX7_whyNoBound_44 : decode cX7_whyNoBound 44 = .ok (.getfield 12, 3) := by decide +kernel
theorem dX7_whyNoBound_47 : decode cX7_whyNoBound 47 = .ok (.getfield 145, 3) := by decide +kernel
theorem dX7_whyNoBound_50 : decode cX7_whyNoBound 50 = .ok (.invokevirtual 349, 3) := by decide +kernel
theorem dX7_whyNoBound_53 : decode cX7_whyNoBound 53 = .ok (.istore_n 3, 1) := by decide +kernel
theorem dX7_whyNoBound_54 : decode cX7_whyNoBound 54 = .ok (.iload_n 3, 1) := by decide +kernel
theorem dX7_whyNoBound_55 : decode cX7_whyNoBound 55 = .ok (.iconst (-1), 1) := by decide +kernel
theorem dX7_whyNoBound_56 : decode cX7_whyNoBound 56 = .ok (.if_icmp .eq 22, 3) := by decide +kernel
theorem dX7_whyNoBound_59 : decode cX7_whyNoBound 59 = .ok (.iload_n 1, 1) := by decide +kernel
theorem dX7_whyNoBound_60 : decode cX7_whyNoBound 60 = .ok (.ifCond .ne 7, 3) := by decide +kernel
theorem dX7_whyNoBound_63 : decode cX7_whyNoBound 63 = .ok (.iconst 2, 1) := by decide +kernel
theorem dX7_whyNoBound_64 : decode cX7_whyNoBound 64 = .ok (.goto 13, 3) := by decide +kernel
theorem dX7_whyNoBound_67 : decode cX7_whyNoBound 67 = .ok (.iload_n 1, 1) := by decide +kernel
theorem dX7_whyNoBound_68 : decode cX7_whyNoBound 68 = .ok (.iconst 1, 1) := by decide +kernel
theorem dX7_whyNoBound_69 : decode cX7_whyNoBound 69 = .ok (.if_icmp .ne 7, 3) := by decide +kernel
theorem dX7_whyNoBound_72 : decode cX7_whyNoBound 72 = .ok (.iload_n 3, 1) := by decide +kernel
theorem dX7_whyNoBound_73 : decode cX7_whyNoBound 73 = .ok (.goto 4, 3) := by decide +kernel
theorem dX7_whyNoBound_76 : decode cX7_whyNoBound 76 = .ok (.iconst (-1), 1) := by decide +kernel
theorem dX7_whyNoBound_77 : decode cX7_whyNoBound 77 = .ok (.ireturn, 1) := by decide +kernel
theorem dX7_whyNoBound_78 : decode cX7_whyNoBound 78 = .ok (.iload_n 1, 1) := by decide +kernel
theorem dX7_whyNoBound_79 : decode cX7_whyNoBound 79 = .ok (.ifCond .ne 7, 3) := by decide +kernel
theorem dX7_whyNoBound_82 : decode cX7_whyNoBound 82 = .ok (.iconst 0, 1) := by decide +kernel
theorem dX7_whyNoBound_83 : decode cX7_whyNoBound 83 = .ok (.goto 4, 3) := by decide +kernel
theorem dX7_whyNoBound_86 : decode cX7_whyNoBound 86 = .ok (.iconst (-1), 1) := by decide +kernel
theorem dX7_whyNoBound_87 : decode cX7_whyNoBound 87 = .ok (.ireturn, 1) := by decide +kernel
theorem dX7_reasonAgainst_0 : decode cX7_reasonAgainst 0 = .ok (.aload_n 0, 1) := by decide +kernel
theorem dX7_reasonAgainst_1 : decode cX7_reasonAgainst 1 = .ok (.getfield 77, 3) := by decide +kernel
theorem dX7_reasonAgainst_4 : decode cX7_reasonAgainst 4 = .ok (.aload_n 1, 1) := by decide +kernel
theorem dX7_reasonAgainst_5 : decode cX7_reasonAgainst 5 = .ok (.getfield 77, 3) := by decide +kernel
theorem dX7_reasonAgainst_8 : decode cX7_reasonAgainst 8 = .ok (.imul, 1) := by decide +kernel
theorem dX7_reasonAgainst_9 : decode cX7_reasonAgainst 9 = .ok (.bipush 8, 2) := by decide +kernel
theorem dX7_reasonAgainst_11 : decode cX7_reasonAgainst 11 = .ok (.if_icmp .le 5, 3) := by decide +kernel
theorem dX7_reasonAgainst_14 : decode cX7_reasonAgainst 14 = .ok (.iconst 1, 1) := by decide +kernel
theorem dX7_reasonAgainst_15 : decode cX7_reasonAgainst 15 = .ok (.ireturn, 1) := by decide +kernel
theorem dX7_reasonAgainst_16 : decode cX7_reasonAgainst 16 = .ok (.aload_n 0, 1) := by decide +kernel
theorem dX7_reasonAgainst_17 : decode cX7_reasonAgainst 17 = .ok (.getfield 155, 3) := by decide +kernel
theorem dX7_reasonAgainst_20 : decode cX7_reasonAgainst 20 = .ok (.aload_n 1, 1) := by decide +kernel
theorem dX7_reasonAgainst_21 : decode cX7_reasonAgainst 21 = .ok (.getfield 155, 3) := by decide +kernel
theorem dX7_reasonAgainst_24 : decode cX7_reasonAgainst 24 = .ok (.imul, 1) := by decide +kernel
theorem dX7_reasonAgainst_25 : decode cX7_reasonAgainst 25 = .ok (.iconst 4, 1) := by decide +kernel
theorem dX7_reasonAgainst_26 : decode cX7_reasonAgainst 26 = .ok (.if_icmp .le 5, 3) := by decide +kernel
theorem dX7_reasonAgainst_29 : decode cX7_reasonAgainst 29 = .ok (.iconst 2, 1) := by decide +kernel
theorem dX7_reasonAgainst_30 : decode cX7_reasonAgainst 30 = .ok (.ireturn, 1) := by decide +kernel
theorem dX7_reasonAgainst_31 : decode cX7_reasonAgainst 31 = .ok (.aload_n 0, 1) := by decide +kernel
theorem dX7_reasonAgainst_32 : decode cX7_reasonAgainst 32 = .ok (.invokevirtual 353, 3) := by decide +kernel
theorem dX7_reasonAgainst_35 : decode cX7_reasonAgainst 35 = .ok (.aload_n 1, 1) := by decide +kernel
theorem dX7_reasonAgainst_36 : decode cX7_reasonAgainst 36 = .ok (.invokevirtual 353, 3) := by decide +kernel
theorem dX7_reasonAgainst_39 : decode cX7_reasonAgainst 39 = .ok (.imul, 1) := by decide +kernel
theorem dX7_reasonAgainst_40 : decode cX7_reasonAgainst 40 = .ok (.bipush 9, 2) := by decide +kernel
theorem dX7_reasonAgainst_42 : decode cX7_reasonAgainst 42 = .ok (.if_icmp .le 5, 3) := by decide +kernel
theorem dX7_reasonAgainst_45 : decode cX7_reasonAgainst 45 = .ok (.iconst 3, 1) := by decide +kernel
theorem dX7_reasonAgainst_46 : decode cX7_reasonAgainst 46 = .ok (.ireturn, 1) := by decide +kernel
theorem dX7_reasonAgainst_47 : decode cX7_reasonAgainst 47 = .ok (.aload_n 0, 1) := by decide +kernel
theorem dX7_reasonAgainst_48 : decode cX7_reasonAgainst 48 = .ok (.invokevirtual 356, 3) := by decide +kernel
theorem dX7_reasonAgainst_51 : decode cX7_reasonAgainst 51 = .ok (.aload_n 1, 1) := by decide +kernel
theorem dX7_reasonAgainst_52 : decode cX7_reasonAgainst 52 = .ok (.invokevirtual 356, 3) := by decide +kernel
theorem dX7_reasonAgainst_55 : decode cX7_reasonAgainst 55 = .ok (.imul, 1) := by decide +kernel
theorem dX7_reasonAgainst_56 : decode cX7_reasonAgainst 56 = .ok (.bipush 9, 2) := by decide +kernel
theorem dX7_reasonAgainst_58 : decode cX7_reasonAgainst 58 = .ok (.if_icmp .gt 23, 3) := by decide +kernel
theorem dX7_reasonAgainst_61 : decode cX7_reasonAgainst 61 = .ok (.aload_n 0, 1) := by decide +kernel
theorem dX7_reasonAgainst_62 : decode cX7_reasonAgainst 62 = .ok (.getfield 145, 3) := by decide +kernel
theorem dX7_reasonAgainst_65 : decode cX7_reasonAgainst 65 = .ok (.invokestatic 359, 3) := by decide +kernel
theorem dX7_reasonAgainst_68 : decode cX7_reasonAgainst 68 = .ok (.aload_n 1, 1) := by decide +kernel
theorem dX7_reasonAgainst_69 : decode cX7_reasonAgainst 69 = .ok (.getfield 145, 3) := by decide +kernel
theorem dX7_reasonAgainst_72 : decode cX7_reasonAgainst 72 = .ok (.invokestatic 359, 3) := by decide +kernel
theorem dX7_reasonAgainst_75 : decode cX7_reasonAgainst 75 = .ok (.imul, 1) := by decide +kernel
theorem dX7_reasonAgainst_76 : decode cX7_reasonAgainst 76 = .ok (.bipush 9, 2) := by decide +kernel
theorem dX7_reasonAgainst_78 : decode cX7_reasonAgainst 78 = .ok (.if_icmp .le 5, 3) := by decide +kernel
theorem dX7_reasonAgainst_81 : decode cX7_reasonAgainst 81 = .ok (.iconst 4, 1) := by decide +kernel
theorem dX7_reasonAgainst_82 : decode cX7_reasonAgainst 82 = .ok (.ireturn, 1) := by decide +kernel
theorem dX7_reasonAgainst_83 : decode cX7_reasonAgainst 83 = .ok (.iconst 0, 1) := by decide +kernel
theorem dX7_reasonAgainst_84 : decode cX7_reasonAgainst 84 = .ok (.ireturn, 1) := by decide +kernel
theorem dX7_mix_0 : decode cX7_mix 0 = .ok (.ldc2_w 362, 3) := by decide +kernel
theorem dX7_mix_3 : decode cX7_mix 3 = .ok (.lload_n 0, 1) := by decide +kernel
theorem dX7_mix_4 : decode cX7_mix 4 = .ok (.lmul, 1) := by decide +kernel
theorem dX7_mix_5 : decode cX7_mix 5 = .ok (.lload_n 2, 1) := by decide +kernel
theorem dX7_mix_6 : decode cX7_mix 6 = .ok (.ladd, 1) := by decide +kernel
theorem dX7_mix_7 : decode cX7_mix 7 = .ok (.lreturn, 1) := by decide +kernel
theorem dX7_mixVertices_0 : decode cX7_mixVertices 0 = .ok (.lload_n 1, 1) := by decide +kernel
theorem dX7_mixVertices_1 : decode cX7_mixVertices 1 = .ok (.lstore_n 3, 1) := by decide +kernel
theorem dX7_mixVertices_2 : decode cX7_mixVertices 2 = .ok (.iconst 0, 1) := by decide +kernel
theorem dX7_mixVertices_3 : decode cX7_mixVertices 3 = .ok (.istore 5, 2) := by decide +kernel
theorem dX7_mixVertices_5 : decode cX7_mixVertices 5 = .ok (.iload 5, 2) := by decide +kernel
theorem dX7_mixVertices_7 : decode cX7_mixVertices 7 = .ok (.aload_n 0, 1) := by decide +kernel
theorem dX7_mixVertices_8 : decode cX7_mixVertices 8 = .ok (.getfield 12, 3) := by decide +kernel
theorem dX7_mixVertices_11 : decode cX7_mixVertices 11 = .ok (.getfield 77, 3) := by decide +kernel
theorem dX7_mixVertices_14 : decode cX7_mixVertices 14 = .ok (.if_icmp .ge 114, 3) := by decide +kernel
theorem dX7_mixVertices_17 : decode cX7_mixVertices 17 = .ok (.iconst 0, 1) := by decide +kernel
theorem dX7_mixVertices_18 : decode cX7_mixVertices 18 = .ok (.istore 6, 2) := by decide +kernel
theorem dX7_mixVertices_20 : decode cX7_mixVertices 20 = .ok (.iload 6, 2) := by decide +kernel
theorem dX7_mixVertices_22 : decode cX7_mixVertices 22 = .ok (.iconst 5, 1) := by decide +kernel
theorem dX7_mixVertices_23 : decode cX7_mixVertices 23 = .ok (.if_icmp .gt 23, 3) := by decide +kernel
theorem dX7_mixVertices_26 : decode cX7_mixVertices 26 = .ok (.lload_n 3, 1) := by decide +kernel
theorem dX7_mixVertices_27 : decode cX7_mixVertices 27 = .ok (.aload_n 0, 1) := by decide +kernel
theorem dX7_mixVertices_28 : decode cX7_mixVertices 28 = .ok (.iload 5, 2) := by decide +kernel
theorem dX7_mixVertices_30 : decode cX7_mixVertices 30 = .ok (.iload 6, 2) := by decide +kernel
theorem dX7_mixVertices_32 : decode cX7_mixVertices 32 = .ok (.invokevirtual 237, 3) := by decide +kernel
theorem dX7_mixVertices_35 : decode cX7_mixVertices 35 = .ok (.i2l, 1) := by decide +kernel
theorem dX7_mixVertices_36 : decode cX7_mixVertices 36 = .ok (.invokestatic 270, 3) := by decide +kernel
theorem dX7_mixVertices_39 : decode cX7_mixVertices 39 = .ok (.lstore_n 3, 1) := by decide +kernel
theorem dX7_mixVertices_40 : decode cX7_mixVertices 40 = .ok (.iinc 6 1, 3) := by decide +kernel
theorem dX7_mixVertices_43 : decode cX7_mixVertices 43 = .ok (.goto (-23), 3) := by decide +kernel
theorem dX7_mixVertices_46 : decode cX7_mixVertices 46 = .ok (.bipush 10, 2) := by decide +kernel
theorem dX7_mixVertices_48 : decode cX7_mixVertices 48 = .ok (.istore 6, 2) := by decide +kernel
theorem dX7_mixVertices_50 : decode cX7_mixVertices 50 = .ok (.iload 6, 2) := by decide +kernel
theorem dX7_mixVertices_52 : decode cX7_mixVertices 52 = .ok (.bipush 13, 2) := by decide +kernel
theorem dX7_mixVertices_54 : decode cX7_mixVertices 54 = .ok (.if_icmp .gt 23, 3) := by decide +kernel
theorem dX7_mixVertices_57 : decode cX7_mixVertices 57 = .ok (.lload_n 3, 1) := by decide +kernel
theorem dX7_mixVertices_58 : decode cX7_mixVertices 58 = .ok (.aload_n 0, 1) := by decide +kernel
theorem dX7_mixVertices_59 : decode cX7_mixVertices 59 = .ok (.iload 5, 2) := by decide +kernel
theorem dX7_mixVertices_61 : decode cX7_mixVertices 61 = .ok (.iload 6, 2) := by decide +kernel
theorem dX7_mixVertices_63 : decode cX7_mixVertices 63 = .ok (.invokevirtual 237, 3) := by decide +kernel
theorem dX7_mixVertices_66 : decode cX7_mixVertices 66 = .ok (.i2l, 1) := by decide +kernel
theorem dX7_mixVertices_67 : decode cX7_mixVertices 67 = .ok (.invokestatic 270, 3) := by decide +kernel
theorem dX7_mixVertices_70 : decode cX7_mixVertices 70 = .ok (.lstore_n 3, 1) := by decide +kernel
theorem dX7_mixVertices_71 : decode cX7_mixVertices 71 = .ok (.iinc 6 1, 3) := by decide +kernel
theorem dX7_mixVertices_74 : decode cX7_mixVertices 74 = .ok (.goto (-24), 3) := by decide +kernel
theorem dX7_mixVertices_77 : decode cX7_mixVertices 77 = .ok (.iconst 0, 1) := by decide +kernel
theorem dX7_mixVertices_78 : decode cX7_mixVertices 78 = .ok (.istore 6, 2) := by decide +kernel
theorem dX7_mixVertices_80 : decode cX7_mixVertices 80 = .ok (.iload 6, 2) := by decide +kernel
theorem dX7_mixVertices_82 : decode cX7_mixVertices 82 = .ok (.aload_n 0, 1) := by decide +kernel
theorem dX7_mixVertices_83 : decode cX7_mixVertices 83 = .ok (.getfield 12, 3) := by decide +kernel
theorem dX7_mixVertices_86 : decode cX7_mixVertices 86 = .ok (.getfield 77, 3) := by decide +kernel
theorem dX7_mixVertices_89 : decode cX7_mixVertices 89 = .ok (.if_icmp .ge 33, 3) := by decide +kernel
theorem dX7_mixVertices_92 : decode cX7_mixVertices 92 = .ok (.lload_n 3, 1) := by decide +kernel
theorem dX7_mixVertices_93 : decode cX7_mixVertices 93 = .ok (.aload_n 0, 1) := by decide +kernel
theorem dX7_mixVertices_94 : decode cX7_mixVertices 94 = .ok (.getfield 12, 3) := by decide +kernel
theorem dX7_mixVertices_97 : decode cX7_mixVertices 97 = .ok (.iload 5, 2) := by decide +kernel
theorem dX7_mixVertices_99 : decode cX7_mixVertices 99 = .ok (.iload 6, 2) := by decide +kernel
theorem dX7_mixVertices_101 : decode cX7_mixVertices 101 = .ok (.invokevirtual 228, 3) := by decide +kernel
theorem dX7_mixVertices_104 : decode cX7_mixVertices 104 = .ok (.ifCond .eq 7, 3) := by decide +kernel
theorem dX7_mixVertices_107 : decode cX7_mixVertices 107 = .ok (.lconst 1, 1) := by decide +kernel
theorem dX7_mixVertices_108 : decode cX7_mixVertices 108 = .ok (.goto 4, 3) := by decide +kernel
theorem dX7_mixVertices_111 : decode cX7_mixVertices 111 = .ok (.lconst 0, 1) := by decide +kernel
theorem dX7_mixVertices_112 : decode cX7_mixVertices 112 = .ok (.invokestatic 270, 3) := by decide +kernel
theorem dX7_mixVertices_115 : decode cX7_mixVertices 115 = .ok (.lstore_n 3, 1) := by decide +kernel
theorem dX7_mixVertices_116 : decode cX7_mixVertices 116 = .ok (.iinc 6 1, 3) := by decide +kernel
theorem dX7_mixVertices_119 : decode cX7_mixVertices 119 = .ok (.goto (-39), 3) := by decide +kernel
theorem dX7_mixVertices_122 : decode cX7_mixVertices 122 = .ok (.iinc 5 1, 3) := by decide +kernel
theorem dX7_mixVertices_125 : decode cX7_mixVertices 125 = .ok (.goto (-120), 3) := by decide +kernel
theorem dX7_mixVertices_128 : decode cX7_mixVertices 128 = .ok (.lload_n 3, 1) := by decide +kernel
theorem dX7_mixVertices_129 : decode cX7_mixVertices 129 = .ok (.lreturn, 1) := by decide +kernel
theorem dX7_mixBounds_0 : decode cX7_mixBounds 0 = .ok (.lload_n 1, 1) := by decide +kernel
theorem dX7_mixBounds_1 : decode cX7_mixBounds 1 = .ok (.lstore_n 3, 1) := by decide +kernel
theorem dX7_mixBounds_2 : decode cX7_mixBounds 2 = .ok (.aload_n 0, 1) := by decide +kernel
theorem dX7_mixBounds_3 : decode cX7_mixBounds 3 = .ok (.getfield 55, 3) := by decide +kernel
theorem dX7_mixBounds_6 : decode cX7_mixBounds 6 = .ok (.aload_n 0, 1) := by decide +kernel
theorem dX7_mixBounds_7 : decode cX7_mixBounds 7 = .ok (.getfield 12, 3) := by decide +kernel
theorem dX7_mixBounds_10 : decode cX7_mixBounds 10 = .ok (.invokevirtual 244, 3) := by decide +kernel
theorem dX7_mixBounds_13 : decode cX7_mixBounds 13 = .ok (.iconst 0, 1) := by decide +kernel
theorem dX7_mixBounds_14 : decode cX7_mixBounds 14 = .ok (.istore 5, 2) := by decide +kernel
theorem dX7_mixBounds_16 : decode cX7_mixBounds 16 = .ok (.iload 5, 2) := by decide +kernel
theorem dX7_mixBounds_18 : decode cX7_mixBounds 18 = .ok (.iconst 2, 1) := by decide +kernel
theorem dX7_mixBounds_19 : decode cX7_mixBounds 19 = .ok (.if_icmp .gt 23, 3) := by decide +kernel
theorem dX7_mixBounds_22 : decode cX7_mixBounds 22 = .ok (.lload_n 3, 1) := by decide +kernel
theorem dX7_mixBounds_23 : decode cX7_mixBounds 23 = .ok (.aload_n 0, 1) := by decide +kernel
theorem dX7_mixBounds_24 : decode cX7_mixBounds 24 = .ok (.getfield 55, 3) := by decide +kernel
theorem dX7_mixBounds_27 : decode cX7_mixBounds 27 = .ok (.iload 5, 2) := by decide +kernel
theorem dX7_mixBounds_29 : decode cX7_mixBounds 29 = .ok (.invokevirtual 247, 3) := by decide +kernel
theorem dX7_mixBounds_32 : decode cX7_mixBounds 32 = .ok (.invokestatic 270, 3) := by decide +kernel
theorem dX7_mixBounds_35 : decode cX7_mixBounds 35 = .ok (.lstore_n 3, 1) := by decide +kernel
theorem dX7_mixBounds_36 : decode cX7_mixBounds 36 = .ok (.iinc 5 1, 3) := by decide +kernel
theorem dX7_mixBounds_39 : decode cX7_mixBounds 39 = .ok (.goto (-23), 3) := by decide +kernel
theorem dX7_mixBounds_42 : decode cX7_mixBounds 42 = .ok (.iconst 0, 1) := by decide +kernel
theorem dX7_mixBounds_43 : decode cX7_mixBounds 43 = .ok (.istore 5, 2) := by decide +kernel
theorem dX7_mixBounds_45 : decode cX7_mixBounds 45 = .ok (.iload 5, 2) := by decide +kernel
theorem dX7_mixBounds_47 : decode cX7_mixBounds 47 = .ok (.iconst 2, 1) := by decide +kernel
theorem dX7_mixBounds_48 : decode cX7_mixBounds 48 = .ok (.if_icmp .gt 21, 3) := by decide +kernel
theorem dX7_mixBounds_51 : decode cX7_mixBounds 51 = .ok (.lload_n 3, 1) := by decide +kernel
theorem dX7_mixBounds_52 : decode cX7_mixBounds 52 = .ok (.aload_n 0, 1) := by decide +kernel
theorem dX7_mixBounds_53 : decode cX7_mixBounds 53 = .ok (.iload 5, 2) := by decide +kernel
theorem dX7_mixBounds_55 : decode cX7_mixBounds 55 = .ok (.invokevirtual 251, 3) := by decide +kernel
theorem dX7_mixBounds_58 : decode cX7_mixBounds 58 = .ok (.i2l, 1) := by decide +kernel
theorem dX7_mixBounds_59 : decode cX7_mixBounds 59 = .ok (.invokestatic 270, 3) := by decide +kernel
theorem dX7_mixBounds_62 : decode cX7_mixBounds 62 = .ok (.lstore_n 3, 1) := by decide +kernel
theorem dX7_mixBounds_63 : decode cX7_mixBounds 63 = .ok (.iinc 5 1, 3) := by decide +kernel
theorem dX7_mixBounds_66 : decode cX7_mixBounds 66 = .ok (.goto (-21), 3) := by decide +kernel
theorem dX7_mixBounds_69 : decode cX7_mixBounds 69 = .ok (.aload_n 0, 1) := by decide +kernel
theorem dX7_mixBounds_70 : decode cX7_mixBounds 70 = .ok (.getfield 62, 3) := by decide +kernel
theorem dX7_mixBounds_73 : decode cX7_mixBounds 73 = .ok (.aload_n 0, 1) := by decide +kernel
theorem dX7_mixBounds_74 : decode cX7_mixBounds 74 = .ok (.getfield 12, 3) := by decide +kernel
theorem dX7_mixBounds_77 : decode cX7_mixBounds 77 = .ok (.iconst 1, 1) := by decide +kernel
theorem dX7_mixBounds_78 : decode cX7_mixBounds 78 = .ok (.invokevirtual 167, 3) := by decide +kernel
theorem dX7_mixBounds_81 : decode cX7_mixBounds 81 = .ok (.lload_n 3, 1) := by decide +kernel
theorem dX7_mixBounds_82 : decode cX7_mixBounds 82 = .ok (.aload_n 0, 1) := by decide +kernel
theorem dX7_mixBounds_83 : decode cX7_mixBounds 83 = .ok (.getfield 62, 3) := by decide +kernel
theorem dX7_mixBounds_86 : decode cX7_mixBounds 86 = .ok (.iconst 0, 1) := by decide +kernel
theorem dX7_mixBounds_87 : decode cX7_mixBounds 87 = .ok (.invokevirtual 256, 3) := by decide +kernel
theorem dX7_mixBounds_90 : decode cX7_mixBounds 90 = .ok (.invokestatic 270, 3) := by decide +kernel
theorem dX7_mixBounds_93 : decode cX7_mixBounds 93 = .ok (.lstore_n 3, 1) := by decide +kernel
theorem dX7_mixBounds_94 : decode cX7_mixBounds 94 = .ok (.lload_n 3, 1) := by decide +kernel
theorem dX7_mixBounds_95 : decode cX7_mixBounds 95 = .ok (.aload_n 0, 1) := by decide +kernel
theorem dX7_mixBounds_96 : decode cX7_mixBounds 96 = .ok (.getfield 62, 3) := by decide +kernel
theorem dX7_mixBounds_99 : decode cX7_mixBounds 99 = .ok (.iconst 1, 1) := by decide +kernel
theorem dX7_mixBounds_100 : decode cX7_mixBounds 100 = .ok (.invokevirtual 256, 3) := by decide +kernel
theorem dX7_mixBounds_103 : decode cX7_mixBounds 103 = .ok (.invokestatic 270, 3) := by decide +kernel
theorem dX7_mixBounds_106 : decode cX7_mixBounds 106 = .ok (.lstore_n 3, 1) := by decide +kernel
theorem dX7_mixBounds_107 : decode cX7_mixBounds 107 = .ok (.bipush 10, 2) := by decide +kernel
theorem dX7_mixBounds_109 : decode cX7_mixBounds 109 = .ok (.istore 5, 2) := by decide +kernel
theorem dX7_mixBounds_111 : decode cX7_mixBounds 111 = .ok (.iload 5, 2) := by decide +kernel
theorem dX7_mixBounds_113 : decode cX7_mixBounds 113 = .ok (.bipush 13, 2) := by decide +kernel
theorem dX7_mixBounds_115 : decode cX7_mixBounds 115 = .ok (.if_icmp .gt 23, 3) := by decide +kernel
theorem dX7_mixBounds_118 : decode cX7_mixBounds 118 = .ok (.lload_n 3, 1) := by decide +kernel
theorem dX7_mixBounds_119 : decode cX7_mixBounds 119 = .ok (.aload_n 0, 1) := by decide +kernel
theorem dX7_mixBounds_120 : decode cX7_mixBounds 120 = .ok (.getfield 62, 3) := by decide +kernel
theorem dX7_mixBounds_123 : decode cX7_mixBounds 123 = .ok (.iload 5, 2) := by decide +kernel
theorem dX7_mixBounds_125 : decode cX7_mixBounds 125 = .ok (.invokevirtual 256, 3) := by decide +kernel
theorem dX7_mixBounds_128 : decode cX7_mixBounds 128 = .ok (.invokestatic 270, 3) := by decide +kernel
theorem dX7_mixBounds_131 : decode cX7_mixBounds 131 = .ok (.lstore_n 3, 1) := by decide +kernel
theorem dX7_mixBounds_132 : decode cX7_mixBounds 132 = .ok (.iinc 5 1, 3) := by decide +kernel
theorem dX7_mixBounds_135 : decode cX7_mixBounds 135 = .ok (.goto (-24), 3) := by decide +kernel
theorem dX7_mixBounds_138 : decode cX7_mixBounds 138 = .ok (.lload_n 3, 1) := by decide +kernel
theorem dX7_mixBounds_139 : decode cX7_mixBounds 139 = .ok (.lreturn, 1) := by decide +kernel
theorem dX7_bitsOf_0 : decode cX7_bitsOf 0 = .ok (.dload_n 0, 1) := by decide +kernel
theorem dX7_bitsOf_1 : decode cX7_bitsOf 1 = .ok (.dconst 0, 1) := by decide +kernel
theorem dX7_bitsOf_2 : decode cX7_bitsOf 2 = .ok (.dcmp .g, 1) := by decide +kernel
theorem dX7_bitsOf_3 : decode cX7_bitsOf 3 = .ok (.ifCond .gt 5, 3) := by decide +kernel
theorem dX7_bitsOf_6 : decode cX7_bitsOf 6 = .ok (.lconst 0, 1) := by decide +kernel
theorem dX7_bitsOf_7 : decode cX7_bitsOf 7 = .ok (.lreturn, 1) := by decide +kernel
theorem dX7_bitsOf_8 : decode cX7_bitsOf 8 = .ok (.dload_n 0, 1) := by decide +kernel
theorem dX7_bitsOf_9 : decode cX7_bitsOf 9 = .ok (.dstore_n 2, 1) := by decide +kernel
theorem dX7_bitsOf_10 : decode cX7_bitsOf 10 = .ok (.ldc2_w 364, 3) := by decide +kernel
theorem dX7_bitsOf_13 : decode cX7_bitsOf 13 = .ok (.lstore 4, 2) := by decide +kernel
theorem dX7_bitsOf_15 : decode cX7_bitsOf 15 = .ok (.iconst 0, 1) := by decide +kernel
theorem dX7_bitsOf_16 : decode cX7_bitsOf 16 = .ok (.istore 6, 2) := by decide +kernel
theorem dX7_bitsOf_18 : decode cX7_bitsOf 18 = .ok (.iload 6, 2) := by decide +kernel
theorem dX7_bitsOf_20 : decode cX7_bitsOf 20 = .ok (.sipush 1000, 3) := by decide +kernel
theorem dX7_bitsOf_23 : decode cX7_bitsOf 23 = .ok (.if_icmp .ge 27, 3) := by decide +kernel
theorem dX7_bitsOf_26 : decode cX7_bitsOf 26 = .ok (.dload_n 2, 1) := by decide +kernel
theorem dX7_bitsOf_27 : decode cX7_bitsOf 27 = .ok (.dconst 1, 1) := by decide +kernel
theorem dX7_bitsOf_28 : decode cX7_bitsOf 28 = .ok (.dcmp .g, 1) := by decide +kernel
theorem dX7_bitsOf_29 : decode cX7_bitsOf 29 = .ok (.ifCond .ge 21, 3) := by decide +kernel
theorem dX7_bitsOf_32 : decode cX7_bitsOf 32 = .ok (.dload_n 2, 1) := by decide +kernel
theorem dX7_bitsOf_33 : decode cX7_bitsOf 33 = .ok (.ldc2_w 366, 3) := by decide +kernel
theorem dX7_bitsOf_36 : decode cX7_bitsOf 36 = .ok (.dmul, 1) := by decide +kernel
theorem dX7_bitsOf_37 : decode cX7_bitsOf 37 = .ok (.dstore_n 2, 1) := by decide +kernel
theorem dX7_bitsOf_38 : decode cX7_bitsOf 38 = .ok (.lload 4, 2) := by decide +kernel
theorem dX7_bitsOf_40 : decode cX7_bitsOf 40 = .ok (.lconst 1, 1) := by decide +kernel
theorem dX7_bitsOf_41 : decode cX7_bitsOf 41 = .ok (.lsub, 1) := by decide +kernel
theorem dX7_bitsOf_42 : decode cX7_bitsOf 42 = .ok (.lstore 4, 2) := by decide +kernel
theorem dX7_bitsOf_44 : decode cX7_bitsOf 44 = .ok (.iinc 6 1, 3) := by decide +kernel
theorem dX7_bitsOf_47 : decode cX7_bitsOf 47 = .ok (.goto (-29), 3) := by decide +kernel
theorem dX7_bitsOf_50 : decode cX7_bitsOf 50 = .ok (.lload 4, 2) := by decide +kernel
theorem dX7_bitsOf_52 : decode cX7_bitsOf 52 = .ok (.bipush 52, 2) := by decide +kernel
theorem dX7_bitsOf_54 : decode cX7_bitsOf 54 = .ok (.lshl, 1) := by decide +kernel
theorem dX7_bitsOf_55 : decode cX7_bitsOf 55 = .ok (.dload_n 2, 1) := by decide +kernel
theorem dX7_bitsOf_56 : decode cX7_bitsOf 56 = .ok (.dconst 1, 1) := by decide +kernel
theorem dX7_bitsOf_57 : decode cX7_bitsOf 57 = .ok (.dsub, 1) := by decide +kernel
theorem dX7_bitsOf_58 : decode cX7_bitsOf 58 = .ok (.ldc2_w 368, 3) := by decide +kernel
theorem dX7_bitsOf_61 : decode cX7_bitsOf 61 = .ok (.dmul, 1) := by decide +kernel
theorem dX7_bitsOf_62 : decode cX7_bitsOf 62 = .ok (.d2l, 1) := by decide +kernel
theorem dX7_bitsOf_63 : decode cX7_bitsOf 63 = .ok (.ladd, 1) := by decide +kernel
theorem dX7_bitsOf_64 : decode cX7_bitsOf 64 = .ok (.lreturn, 1) := by decide +kernel
theorem dX7_product_0 : decode cX7_product 0 = .ok (.iconst 0, 1) := by decide +kernel
theorem dX7_product_1 : decode cX7_product 1 = .ok (.istore_n 2, 1) := by decide +kernel
theorem dX7_product_2 : decode cX7_product 2 = .ok (.iconst 0, 1) := by decide +kernel
theorem dX7_product_3 : decode cX7_product 3 = .ok (.istore_n 3, 1) := by decide +kernel
theorem dX7_product_4 : decode cX7_product 4 = .ok (.iload_n 3, 1) := by decide +kernel
theorem dX7_product_5 : decode cX7_product 5 = .ok (.iconst 4, 1) := by decide +kernel
theorem dX7_product_6 : decode cX7_product 6 = .ok (.if_icmp .ge 19, 3) := by decide +kernel
theorem dX7_product_9 : decode cX7_product 9 = .ok (.iload_n 2, 1) := by decide +kernel
theorem dX7_product_10 : decode cX7_product 10 = .ok (.aload_n 0, 1) := by decide +kernel
theorem dX7_product_11 : decode cX7_product 11 = .ok (.iload_n 3, 1) := by decide +kernel
theorem dX7_product_12 : decode cX7_product 12 = .ok (.iaload, 1) := by decide +kernel
theorem dX7_product_13 : decode cX7_product 13 = .ok (.aload_n 1, 1) := by decide +kernel
theorem dX7_product_14 : decode cX7_product 14 = .ok (.iload_n 3, 1) := by decide +kernel
theorem dX7_product_15 : decode cX7_product 15 = .ok (.iaload, 1) := by decide +kernel
theorem dX7_product_16 : decode cX7_product 16 = .ok (.imul, 1) := by decide +kernel
theorem dX7_product_17 : decode cX7_product 17 = .ok (.iadd, 1) := by decide +kernel
theorem dX7_product_18 : decode cX7_product 18 = .ok (.istore_n 2, 1) := by decide +kernel
theorem dX7_product_19 : decode cX7_product 19 = .ok (.iinc 3 1, 3) := by decide +kernel
theorem dX7_product_22 : decode cX7_product 22 = .ok (.goto (-18), 3) := by decide +kernel
theorem dX7_product_25 : decode cX7_product 25 = .ok (.iload_n 2, 1) := by decide +kernel
theorem dX7_product_26 : decode cX7_product 26 = .ok (.ireturn, 1) := by decide +kernel
theorem dX7_furthest_0 : decode cX7_furthest 0 = .ok (.iconst 0, 1) := by decide +kernel
theorem dX7_furthest_1 : decode cX7_furthest 1 = .ok (.istore_n 1, 1) := by decide +kernel
theorem dX7_furthest_2 : decode cX7_furthest 2 = .ok (.iconst 0, 1) := by decide +kernel
theorem dX7_furthest_3 : decode cX7_furthest 3 = .ok (.istore_n 2, 1) := by decide +kernel
theorem dX7_furthest_4 : decode cX7_furthest 4 = .ok (.iload_n 2, 1) := by decide +kernel
theorem dX7_furthest_5 : decode cX7_furthest 5 = .ok (.iconst 4, 1) := by decide +kernel
theorem dX7_furthest_6 : decode cX7_furthest 6 = .ok (.if_icmp .ge 20, 3) := by decide +kernel
theorem dX7_furthest_9 : decode cX7_furthest 9 = .ok (.iload_n 1, 1) := by decide +kernel
theorem dX7_furthest_10 : decode cX7_furthest 10 = .ok (.aload_n 0, 1) := by decide +kernel
theorem dX7_furthest_11 : decode cX7_furthest 11 = .ok (.iload_n 2, 1) := by decide +kernel
theorem dX7_furthest_12 : decode cX7_furthest 12 = .ok (.iaload, 1) := by decide +kernel
theorem dX7_furthest_13 : decode cX7_furthest 13 = .ok (.invokestatic 370, 3) := by decide +kernel
theorem dX7_furthest_16 : decode cX7_furthest 16 = .ok (.invokestatic 375, 3) := by decide +kernel
theorem dX7_furthest_19 : decode cX7_furthest 19 = .ok (.istore_n 1, 1) := by decide +kernel
theorem dX7_furthest_20 : decode cX7_furthest 20 = .ok (.iinc 2 1, 3) := by decide +kernel
theorem dX7_furthest_23 : decode cX7_furthest 23 = .ok (.goto (-19), 3) := by decide +kernel
theorem dX7_furthest_26 : decode cX7_furthest 26 = .ok (.iload_n 1, 1) := by decide +kernel
theorem dX7_furthest_27 : decode cX7_furthest 27 = .ok (.ireturn, 1) := by decide +kernel
theorem dX8_init_0 : decode cX8_init 0 = .ok (.aload_n 0, 1) := by decide +kernel
theorem dX8_init_1 : decode cX8_init 1 = .ok (.invokespecial 1, 3) := by decide +kernel
theorem dX8_init_4 : decode cX8_init 4 = .ok (.aload_n 0, 1) := by decide +kernel
theorem dX8_init_5 : decode cX8_init 5 = .ok (.bipush 55, 2) := by decide +kernel
theorem dX8_init_7 : decode cX8_init 7 = .ok (.newarray .int, 2) := by decide +kernel
theorem dX8_init_9 : decode cX8_init 9 = .ok (.putfield 7, 3) := by decide +kernel
theorem dX8_init_12 : decode cX8_init 12 = .ok (.aload_n 0, 1) := by decide +kernel
theorem dX8_init_13 : decode cX8_init 13 = .ok (.sipush 330, 3) := by decide +kernel
theorem dX8_init_16 : decode cX8_init 16 = .ok (.newarray .int, 2) := by decide +kernel
theorem dX8_init_18 : decode cX8_init 18 = .ok (.putfield 13, 3) := by decide +kernel
theorem dX8_init_21 : decode cX8_init 21 = .ok (.aload_n 0, 1) := by decide +kernel
theorem dX8_init_22 : decode cX8_init 22 = .ok (.bipush 110, 2) := by decide +kernel
theorem dX8_init_24 : decode cX8_init 24 = .ok (.newarray .int, 2) := by decide +kernel
theorem dX8_init_26 : decode cX8_init 26 = .ok (.putfield 16, 3) := by decide +kernel
theorem dX8_init_29 : decode cX8_init 29 = .ok (.aload_n 0, 1) := by decide +kernel
theorem dX8_init_30 : decode cX8_init 30 = .ok (.iconst 2, 1) := by decide +kernel
theorem dX8_init_31 : decode cX8_init 31 = .ok (.newarray .int, 2) := by decide +kernel
theorem dX8_init_33 : decode cX8_init 33 = .ok (.putfield 19, 3) := by decide +kernel
theorem dX8_init_36 : decode cX8_init 36 = .ok (.aload_n 0, 1) := by decide +kernel
theorem dX8_init_37 : decode cX8_init 37 = .ok (.bipush 60, 2) := by decide +kernel
theorem dX8_init_39 : decode cX8_init 39 = .ok (.newarray .int, 2) := by decide +kernel
theorem dX8_init_41 : decode cX8_init 41 = .ok (.putfield 22, 3) := by decide +kernel
theorem dX8_init_44 : decode cX8_init 44 = .ok (.aload_n 0, 1) := by decide +kernel
theorem dX8_init_45 : decode cX8_init 45 = .ok (.bipush 8, 2) := by decide +kernel
theorem dX8_init_47 : decode cX8_init 47 = .ok (.newarray .int, 2) := by decide +kernel
theorem dX8_init_49 : decode cX8_init 49 = .ok (.putfield 25, 3) := by decide +kernel
theorem dX8_init_52 : decode cX8_init 52 = .ok (.aload_n 0, 1) := by decide +kernel
theorem dX8_init_53 : decode cX8_init 53 = .ok (.bipush 55, 2) := by decide +kernel
theorem dX8_init_55 : decode cX8_init 55 = .ok (.newarray .int, 2) := by decide +kernel
theorem dX8_init_57 : decode cX8_init 57 = .ok (.putfield 28, 3) := by decide +kernel
theorem dX8_init_60 : decode cX8_init 60 = .ok (.aload_n 0, 1) := by decide +kernel
theorem dX8_init_61 : decode cX8_init 61 = .ok (.iconst 4, 1) := by decide +kernel
theorem dX8_init_62 : decode cX8_init 62 = .ok (.newarray .int, 2) := by decide +kernel
theorem dX8_init_64 : decode cX8_init 64 = .ok (.putfield 31, 3) := by decide +kernel
theorem dX8_init_67 : decode cX8_init 67 = .ok (.aload_n 0, 1) := by decide +kernel
theorem dX8_init_68 : decode cX8_init 68 = .ok (.iconst 4, 1) := by decide +kernel
theorem dX8_init_69 : decode cX8_init 69 = .ok (.newarray .int, 2) := by decide +kernel
theorem dX8_init_71 : decode cX8_init 71 = .ok (.putfield 34, 3) := by decide +kernel
theorem dX8_init_74 : decode cX8_init 74 = .ok (.aload_n 0, 1) := by decide +kernel
theorem dX8_init_75 : decode cX8_init 75 = .ok (.iconst 4, 1) := by decide +kernel
theorem dX8_init_76 : decode cX8_init 76 = .ok (.iconst 3, 1) := by decide +kernel
theorem dX8_init_77 : decode cX8_init 77 = .ok (.invokevirtual 37, 3) := by decide +kernel
theorem dX8_init_80 : decode cX8_init 80 = .ok (.return_, 1) := by decide +kernel
theorem dX8_thrown_0 : decode cX8_thrown 0 = .ok (.aload_n 0, 1) := by decide +kernel
theorem dX8_thrown_1 : decode cX8_thrown 1 = .ok (.getfield 41, 3) := by decide +kernel
theorem dX8_thrown_4 : decode cX8_thrown 4 = .ok (.ireturn, 1) := by decide +kernel
theorem dX8_within_0 : decode cX8_within 0 = .ok (.iload_n 0, 1) := by decide +kernel
theorem dX8_within_1 : decode cX8_within 1 = .ok (.iload_n 1, 1) := by decide +kernel
theorem dX8_within_2 : decode cX8_within 2 = .ok (.if_icmp .lt 12, 3) := by decide +kernel
theorem dX8_within_5 : decode cX8_within 5 = .ok (.iload_n 0, 1) := by decide +kernel
theorem dX8_within_6 : decode cX8_within 6 = .ok (.iload_n 2, 1) := by decide +kernel
theorem dX8_within_7 : decode cX8_within 7 = .ok (.if_icmp .gt 7, 3) := by decide +kernel
theorem dX8_within_10 : decode cX8_within 10 = .ok (.iconst 1, 1) := by decide +kernel
theorem dX8_within_11 : decode cX8_within 11 = .ok (.goto 4, 3) := by decide +kernel
theorem dX8_within_14 : decode cX8_within 14 = .ok (.iconst 0, 1) := by decide +kernel
theorem dX8_within_15 : decode cX8_within 15 = .ok (.ireturn, 1) := by decide +kernel
theorem dX8_save_0 : decode cX8_save 0 = .ok (.aload_n 0, 1) := by decide +kernel
theorem dX8_save_1 : decode cX8_save 1 = .ok (.getfield 45, 3) := by decide +kernel
theorem dX8_save_4 : decode cX8_save 4 = .ok (.bipush 6, 2) := by decide +kernel
theorem dX8_save_6 : decode cX8_save 6 = .ok (.if_icmp .ne 44, 3) := by decide +kernel
theorem dX8_save_9 : decode cX8_save 9 = .ok (.bipush 55, 2) := by decide +kernel
theorem dX8_save_11 : decode cX8_save 11 = .ok (.istore_n 1, 1) := by decide +kernel
theorem dX8_save_12 : decode cX8_save 12 = .ok (.iload_n 1, 1) := by decide +kernel
theorem dX8_save_13 : decode cX8_save 13 = .ok (.sipush 330, 3) := by decide +kernel
theorem dX8_save_16 : decode cX8_save 16 = .ok (.if_icmp .ge 24, 3) := by decide +kernel
theorem dX8_save_19 : decode cX8_save 19 = .ok (.aload_n 0, 1) := by decide +kernel
theorem dX8_save_20 : decode cX8_save 20 = .ok (.getfield 13, 3) := by decide +kernel
theorem dX8_save_23 : decode cX8_save 23 = .ok (.iload_n 1, 1) := by decide +kernel
theorem dX8_save_24 : decode cX8_save 24 = .ok (.bipush 55, 2) := by decide +kernel
theorem dX8_save_26 : decode cX8_save 26 = .ok (.isub, 1) := by decide +kernel
theorem dX8_save_27 : decode cX8_save 27 = .ok (.aload_n 0, 1) := by decide +kernel
theorem dX8_save_28 : decode cX8_save 28 = .ok (.getfield 13, 3) := by decide +kernel
theorem dX8_save_31 : decode cX8_save 31 = .ok (.iload_n 1, 1) := by decide +kernel
theorem dX8_save_32 : decode cX8_save 32 = .ok (.iaload, 1) := by decide +kernel
theorem dX8_save_33 : decode cX8_save 33 = .ok (.iastore, 1) := by decide +kernel
theorem dX8_save_34 : decode cX8_save 34 = .ok (.iinc 1 1, 3) := by decide +kernel
theorem dX8_save_37 : decode cX8_save 37 = .ok (.goto (-25), 3) := by decide +kernel
theorem dX8_save_40 : decode cX8_save 40 = .ok (.aload_n 0, 1) := by decide +kernel
theorem dX8_save_41 : decode cX8_save 41 = .ok (.dup, 1) := by decide +kernel
theorem dX8_save_42 : decode cX8_save 42 = .ok (.getfield 45, 3) := by decide +kernel
theorem dX8_save_45 : decode cX8_save 45 = .ok (.iconst 1, 1) := by decide +kernel
theorem dX8_save_46 : decode cX8_save 46 = .ok (.isub, 1) := by decide +kernel
theorem dX8_save_47 : decode cX8_save 47 = .ok (.putfield 45, 3) := by decide +kernel
theorem dX8_save_50 : decode cX8_save 50 = .ok (.iconst 0, 1) := by decide +kernel
theorem dX8_save_51 : decode cX8_save 51 = .ok (.istore_n 1, 1) := by decide +kernel
theorem dX8_save_52 : decode cX8_save 52 = .ok (.iload_n 1, 1) := by decide +kernel
theorem dX8_save_53 : decode cX8_save 53 = .ok (.bipush 55, 2) := by decide +kernel
theorem dX8_save_55 : decode cX8_save 55 = .ok (.if_icmp .ge 29, 3) := by decide +kernel
theorem dX8_save_58 : decode cX8_save 58 = .ok (.aload_n 0, 1) := by decide +kernel
theorem dX8_save_59 : decode cX8_save 59 = .ok (.getfield 13, 3) := by decide +kernel
theorem dX8_save_62 : decode cX8_save 62 = .ok (.bipush 55, 2) := by decide +kernel
theorem dX8_save_64 : decode cX8_save 64 = .ok (.aload_n 0, 1) := by decide +kernel
theorem dX8_save_65 : decode cX8_save 65 = .ok (.getfield 45, 3) := by decide +kernel
theorem dX8_save_68 : decode cX8_save 68 = .ok (.imul, 1) := by decide +kernel
theorem dX8_save_69 : decode cX8_save 69 = .ok (.iload_n 1, 1) := by decide +kernel
theorem dX8_save_70 : decode cX8_save 70 = .ok (.iadd, 1) := by decide +kernel
theorem dX8_save_71 : decode cX8_save 71 = .ok (.aload_n 0, 1) := by decide +kernel
theorem dX8_save_72 : decode cX8_save 72 = .ok (.getfield 7, 3) := by decide +kernel
theorem dX8_save_75 : decode cX8_save 75 = .ok (.iload_n 1, 1) := by decide +kernel
theorem dX8_save_76 : decode cX8_save 76 = .ok (.iaload, 1) := by decide +kernel
theorem dX8_save_77 : decode cX8_save 77 = .ok (.iastore, 1) := by decide +kernel
theorem dX8_save_78 : decode cX8_save 78 = .ok (.iinc 1 1, 3) := by decide +kernel
theorem dX8_save_81 : decode cX8_save 81 = .ok (.goto (-29), 3) := by decide +kernel
theorem dX8_save_84 : decode cX8_save 84 = .ok (.aload_n 0, 1) := by decide +kernel
theorem dX8_save_85 : decode cX8_save 85 = .ok (.dup, 1) := by decide +kernel
theorem dX8_save_86 : decode cX8_save 86 = .ok (.getfield 45, 3) := by decide +kernel
theorem dX8_save_89 : decode cX8_save 89 = .ok (.iconst 1, 1) := by decide +kernel
theorem dX8_save_90 : decode cX8_save 90 = .ok (.iadd, 1) := by decide +kernel
theorem dX8_save_91 : decode cX8_save 91 = .ok (.putfield 45, 3) := by decide +kernel
theorem dX8_save_94 : decode cX8_save 94 = .ok (.return_, 1) := by decide +kernel
theorem dX8_has_0 : decode cX8_has 0 = .ok (.iload_n 0, 1) := by decide +kernel
theorem dX8_has_1 : decode cX8_has 1 = .ok (.iload_n 1, 1) := by decide +kernel
theorem dX8_has_2 : decode cX8_has 2 = .ok (.ishr, 1) := by decide +kernel
theorem dX8_has_3 : decode cX8_has 3 = .ok (.iconst 1, 1) := by decide +kernel
theorem dX8_has_4 : decode cX8_has 4 = .ok (.iand, 1) := by decide +kernel
theorem dX8_has_5 : decode cX8_has 5 = .ok (.iconst 1, 1) := by decide +kernel
theorem dX8_has_6 : decode cX8_has 6 = .ok (.if_icmp .ne 7, 3) := by decide +kernel
theorem dX8_has_9 : decode cX8_has 9 = .ok (.iconst 1, 1) := by decide +kernel
theorem dX8_has_10 : decode cX8_has 10 = .ok (.goto 4, 3) := by decide +kernel
theorem dX8_has_13 : decode cX8_has 13 = .ok (.iconst 0, 1) := by decide +kernel
theorem dX8_has_14 : decode cX8_has 14 = .ok (.ireturn, 1) := by decide +kernel
theorem dX8_ones_0 : decode cX8_ones 0 = .ok (.iconst 0, 1) := by decide +kernel
theorem dX8_ones_1 : decode cX8_ones 1 = .ok (.istore_n 1, 1) := by decide +kernel
theorem dX8_ones_2 : decode cX8_ones 2 = .ok (.iconst 0, 1) := by decide +kernel
theorem dX8_ones_3 : decode cX8_ones 3 = .ok (.istore_n 2, 1) := by decide +kernel
theorem dX8_ones_4 : decode cX8_ones 4 = .ok (.iload_n 2, 1) := by decide +kernel
theorem dX8_ones_5 : decode cX8_ones 5 = .ok (.bipush 8, 2) := by decide +kernel
theorem dX8_ones_7 : decode cX8_ones 7 = .ok (.if_icmp .ge 17, 3) := by decide +kernel
theorem dX8_ones_10 : decode cX8_ones 10 = .ok (.iload_n 1, 1) := by decide +kernel
theorem dX8_ones_11 : decode cX8_ones 11 = .ok (.iload_n 0, 1) := by decide +kernel
theorem dX8_ones_12 : decode cX8_ones 12 = .ok (.iload_n 2, 1) := by decide +kernel
theorem dX8_ones_13 : decode cX8_ones 13 = .ok (.ishr, 1) := by decide +kernel
theorem dX8_ones_14 : decode cX8_ones 14 = .ok (.iconst 1, 1) := by decide +kernel
theorem dX8_ones_15 : decode cX8_ones 15 = .ok (.iand, 1) := by decide +kernel
theorem dX8_ones_16 : decode cX8_ones 16 = .ok (.iadd, 1) := by decide +kernel
theorem dX8_ones_17 : decode cX8_ones 17 = .ok (.istore_n 1, 1) := by decide +kernel
theorem dX8_ones_18 : decode cX8_ones 18 = .ok (.iinc 2 1, 3) := by decide +kernel
theorem dX8_ones_21 : decode cX8_ones 21 = .ok (.goto (-17), 3) := by decide +kernel
theorem dX8_ones_24 : decode cX8_ones 24 = .ok (.iload_n 1, 1) := by decide +kernel
theorem dX8_ones_25 : decode cX8_ones 25 = .ok (.ireturn, 1) := by decide +kernel
theorem dX8_isVertex_0 : decode cX8_isVertex 0 = .ok (.iload_n 1, 1) := by decide +kernel
theorem dX8_isVertex_1 : decode cX8_isVertex 1 = .ok (.iconst 0, 1) := by decide +kernel
theorem dX8_isVertex_2 : decode cX8_isVertex 2 = .ok (.aload_n 0, 1) := by decide +kernel
theorem dX8_isVertex_3 : decode cX8_isVertex 3 = .ok (.getfield 7, 3) := by decide +kernel
theorem dX8_isVertex_6 : decode cX8_isVertex 6 = .ok (.iconst 0, 1) := by decide +kernel
theorem dX8_isVertex_7 : decode cX8_isVertex 7 = .ok (.iaload, 1) := by decide +kernel
theorem dX8_isVertex_8 : decode cX8_isVertex 8 = .ok (.iconst 1, 1) := by decide +kernel
theorem dX8_isVertex_9 : decode cX8_isVertex 9 = .ok (.isub, 1) := by decide +kernel
theorem dX8_isVertex_10 : decode cX8_isVertex 10 = .ok (.invokestatic 48, 3) := by decide +kernel
theorem dX8_isVertex_13 : decode cX8_isVertex 13 = .ok (.ireturn, 1) := by decide +kernel
theorem dX8_isPlace_0 : decode cX8_isPlace 0 = .ok (.iload_n 1, 1) := by decide +kernel
theorem dX8_isPlace_1 : decode cX8_isPlace 1 = .ok (.iconst 0, 1) := by decide +kernel
theorem dX8_isPlace_2 : decode cX8_isPlace 2 = .ok (.aload_n 0, 1) := by decide +kernel
theorem dX8_isPlace_3 : decode cX8_isPlace 3 = .ok (.getfield 7, 3) := by decide +kernel
theorem dX8_isPlace_6 : decode cX8_isPlace 6 = .ok (.iconst 1, 1) := by decide +kernel
theorem dX8_isPlace_7 : decode cX8_isPlace 7 = .ok (.iaload, 1) := by decide +kernel
theorem dX8_isPlace_8 : decode cX8_isPlace 8 = .ok (.iconst 1, 1) := by decide +kernel
theorem dX8_isPlace_9 : decode cX8_isPlace 9 = .ok (.isub, 1) := by decide +kernel
theorem dX8_isPlace_10 : decode cX8_isPlace 10 = .ok (.invokestatic 48, 3) := by decide +kernel
theorem dX8_isPlace_13 : decode cX8_isPlace 13 = .ok (.ireturn, 1) := by decide +kernel
theorem dX8_isNumber_0 : decode cX8_isNumber 0 = .ok (.iload_n 0, 1) := by decide +kernel
theorem dX8_isNumber_1 : decode cX8_isNumber 1 = .ok (.bipush (-9), 2) := by decide +kernel
theorem dX8_isNumber_3 : decode cX8_isNumber 3 = .ok (.bipush 9, 2) := by decide +kernel
theorem dX8_isNumber_5 : decode cX8_isNumber 5 = .ok (.invokestatic 48, 3) := by decide +kernel
theorem dX8_isNumber_8 : decode cX8_isNumber 8 = .ok (.ireturn, 1) := by decide +kernel
theorem dX8_weight_0 : decode cX8_weight 0 = .ok (.aload_n 0, 1) := by decide +kernel
theorem dX8_weight_1 : decode cX8_weight 1 = .ok (.getfield 7, 3) := by decide +kernel
theorem dX8_weight_4 : decode cX8_weight 4 = .ok (.iconst 2, 1) := by decide +kernel
theorem dX8_weight_5 : decode cX8_weight 5 = .ok (.iload_n 1, 1) := by decide +kernel
theorem dX8_weight_6 : decode cX8_weight 6 = .ok (.iadd, 1) := by decide +kernel
theorem dX8_weight_7 : decode cX8_weight 7 = .ok (.iaload, 1) := by decide +kernel
theorem dX8_weight_8 : decode cX8_weight 8 = .ok (.ireturn, 1) := by decide +kernel
theorem dX8_areJoined_0 : decode cX8_areJoined 0 = .ok (.aload_n 0, 1) := by decide +kernel
theorem dX8_areJoined_1 : decode cX8_areJoined 1 = .ok (.getfield 7, 3) := by decide +kernel
theorem dX8_areJoined_4 : decode cX8_areJoined 4 = .ok (.bipush 10, 2) := by decide +kernel
theorem dX8_areJoined_6 : decode cX8_areJoined 6 = .ok (.iload_n 1, 1) := by decide +kernel
theorem dX8_areJoined_7 : decode cX8_areJoined 7 = .ok (.iadd, 1) := by decide +kernel
theorem dX8_areJoined_8 : decode cX8_areJoined 8 = .ok (.iaload, 1) := by decide +kernel
theorem dX8_areJoined_9 : decode cX8_areJoined 9 = .ok (.iload_n 2, 1) := by decide +kernel
theorem dX8_areJoined_10 : decode cX8_areJoined 10 = .ok (.invokestatic 52, 3) := by decide +kernel
theorem dX8_areJoined_13 : decode cX8_areJoined 13 = .ok (.ireturn, 1) := by decide +kernel
theorem dX8_product_0 : decode cX8_product 0 = .ok (.iconst 0, 1) := by decide +kernel
theorem dX8_product_1 : decode cX8_product 1 = .ok (.istore_n 3, 1) := by decide +kernel
theorem dX8_product_2 : decode cX8_product 2 = .ok (.iconst 0, 1) := by decide +kernel
theorem dX8_product_3 : decode cX8_product 3 = .ok (.istore 4, 2) := by decide +kernel
theorem dX8_product_5 : decode cX8_product 5 = .ok (.iload 4, 2) := by decide +kernel
theorem dX8_product_7 : decode cX8_product 7 = .ok (.iconst 4, 1) := by decide +kernel
theorem dX8_product_8 : decode cX8_product 8 = .ok (.if_icmp .ge 31, 3) := by decide +kernel
theorem dX8_product_11 : decode cX8_product 11 = .ok (.iload_n 3, 1) := by decide +kernel
theorem dX8_product_12 : decode cX8_product 12 = .ok (.aload_n 0, 1) := by decide +kernel
theorem dX8_product_13 : decode cX8_product 13 = .ok (.getfield 7, 3) := by decide +kernel
theorem dX8_product_16 : decode cX8_product 16 = .ok (.iload_n 1, 1) := by decide +kernel
theorem dX8_product_17 : decode cX8_product 17 = .ok (.iload 4, 2) := by decide +kernel
theorem dX8_product_19 : decode cX8_product 19 = .ok (.iadd, 1) := by decide +kernel
theorem dX8_product_20 : decode cX8_product 20 = .ok (.iaload, 1) := by decide +kernel
theorem dX8_product_21 : decode cX8_product 21 = .ok (.aload_n 0, 1) := by decide +kernel
theorem dX8_product_22 : decode cX8_product 22 = .ok (.getfield 7, 3) := by decide +kernel
theorem dX8_product_25 : decode cX8_product 25 = .ok (.iload_n 2, 1) := by decide +kernel
theorem dX8_product_26 : decode cX8_product 26 = .ok (.iload 4, 2) := by decide +kernel
theorem dX8_product_28 : decode cX8_product 28 = .ok (.iadd, 1) := by decide +kernel
theorem dX8_product_29 : decode cX8_product 29 = .ok (.iaload, 1) := by decide +kernel
theorem dX8_product_30 : decode cX8_product 30 = .ok (.imul, 1) := by decide +kernel
theorem dX8_product_31 : decode cX8_product 31 = .ok (.iadd, 1) := by decide +kernel
theorem dX8_product_32 : decode cX8_product 32 = .ok (.istore_n 3, 1) := by decide +kernel
theorem dX8_product_33 : decode cX8_product 33 = .ok (.iinc 4 1, 3) := by decide +kernel
theorem dX8_product_36 : decode cX8_product 36 = .ok (.goto (-31), 3) := by decide +kernel
theorem dX8_product_39 : decode cX8_product 39 = .ok (.iload_n 3, 1) := by decide +kernel
theorem dX8_product_40 : decode cX8_product 40 = .ok (.ireturn, 1) := by decide +kernel
theorem dX8_labelAt_0 : decode cX8_labelAt 0 = .ok (.bipush 18, 2) := by decide +kernel
theorem dX8_labelAt_2 : decode cX8_labelAt 2 = .ok (.iconst 4, 1) := by decide +kernel
theorem dX8_labelAt_3 : decode cX8_labelAt 3 = .ok (.iload_n 0, 1) := by decide +kernel
theorem dX8_labelAt_4 : decode cX8_labelAt 4 = .ok (.imul, 1) := by decide +kernel
theorem dX8_labelAt_5 : decode cX8_labelAt 5 = .ok (.iadd, 1) := by decide +kernel
theorem dX8_labelAt_6 : decode cX8_labelAt 6 = .ok (.ireturn, 1) := by decide +kernel
theorem dX8_byHandle_0 : decode cX8_byHandle 0 = .ok (.aload_n 0, 1) := by decide +kernel
theorem dX8_byHandle_1 : decode cX8_byHandle 1 = .ok (.bipush 50, 2) := by decide +kernel
theorem dX8_byHandle_3 : decode cX8_byHandle 3 = .ok (.iload_n 1, 1) := by decide +kernel
theorem dX8_byHandle_4 : decode cX8_byHandle 4 = .ok (.invokestatic 56, 3) := by decide +kernel
theorem dX8_byHandle_7 : decode cX8_byHandle 7 = .ok (.invokevirtual 60, 3) := by decide +kernel
theorem dX8_byHandle_10 : decode cX8_byHandle 10 = .ok (.ireturn, 1) := by decide +kernel
theorem dX8_edges_0 : decode cX8_edges 0 = .ok (.iconst 0, 1) := by decide +kernel
theorem dX8_edges_1 : decode cX8_edges 1 = .ok (.istore_n 1, 1) := by decide +kernel
theorem dX8_edges_2 : decode cX8_edges 2 = .ok (.iconst 0, 1) := by decide +kernel
