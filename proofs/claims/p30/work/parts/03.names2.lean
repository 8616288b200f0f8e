theorem dX7_share_43 : decode cX7_share 43 = .ok (.aload_n 0, 1) := by decide +kernel
theorem dX7_share_44 : decode cX7_share 44 = .ok (.getfield 55, 3) := by decide +kernel
theorem dX7_share_47 : decode cX7_share 47 = .ok (.getfield 340, 3) := by decide +kernel
theorem dX7_share_50 : decode cX7_share 50 = .ok (.l2d, 1) := by decide +kernel
theorem dX7_share_51 : decode cX7_share 51 = .ok (.dmul, 1) := by decide +kernel
theorem dX7_share_52 : decode cX7_share 52 = .ok (.aload_n 0, 1) := by decide +kernel
theorem dX7_share_53 : decode cX7_share 53 = .ok (.getfield 55, 3) := by decide +kernel
theorem dX7_share_56 : decode cX7_share 56 = .ok (.getfield 336, 3) := by decide +kernel
theorem dX7_share_59 : decode cX7_share 59 = .ok (.l2d, 1) := by decide +kernel
theorem dX7_share_60 : decode cX7_share 60 = .ok (.ddiv, 1) := by decide +kernel
theorem dX7_share_61 : decode cX7_share 61 = .ok (.dreturn, 1) := by decide +kernel
theorem dX7_whyNoBound_0 : decode cX7_whyNoBound 0 = .ok (.aload_n 0, 1) := by decide +kernel
theorem dX7_whyNoBound_1 : decode cX7_whyNoBound 1 = .ok (.getfield 12, 3) := by decide +kernel
theorem dX7_whyNoBound_4 : decode cX7_whyNoBound 4 = .ok (.invokevirtual 343, 3) := by decide +kernel
theorem dX7_whyNoBound_7 : decode cX7_whyNoBound 7 = .ok (.istore_n 2, 1) := by decide +kernel
theorem dX7_whyNoBound_8 : decode cX7_whyNoBound 8 = .ok (.iload_n 2, 1) := by decide +kernel
theorem dX7_whyNoBound_9 : decode cX7_whyNoBound 9 = .ok (.iconst (-1), 1) := by decide +kernel
theorem dX7_whyNoBound_10 : decode cX7_whyNoBound 10 = .ok (.if_icmp .eq 29, 3) := by decide +kernel
theorem dX7_whyNoBound_13 : decode cX7_whyNoBound 13 = .ok (.iload_n 1, 1) := by decide +kernel
theorem dX7_whyNoBound_14 : decode cX7_whyNoBound 14 = .ok (.ifCond .ne 7, 3) := by decide +kernel
theorem dX7_whyNoBound_17 : decode cX7_whyNoBound 17 = .ok (.iconst 1, 1) := by decide +kernel
theorem dX7_whyNoBound_18 : decode cX7_whyNoBound 18 = .ok (.goto 20, 3) := by decide +kernel
theorem dX7_whyNoBound_21 : decode cX7_whyNoBound 21 = .ok (.iload_n 1, 1) := by decide +kernel
theorem dX7_whyNoBound_22 : decode cX7_whyNoBound 22 = .ok (.iconst 1, 1) := by decide +kernel
theorem dX7_whyNoBound_23 : decode cX7_whyNoBound 23 = .ok (.if_icmp .ne 7, 3) := by decide +kernel
theorem dX7_whyNoBound_26 : decode cX7_whyNoBound 26 = .ok (.iload_n 2, 1) := by decide +kernel
theorem dX7_whyNoBound_27 : decode cX7_whyNoBound 27 = .ok (.goto 11, 3) := by decide +kernel
theorem dX7_whyNoBound_30 : decode cX7_whyNoBound 30 = .ok (.aload_n 0, 1) := by decide +kernel
theorem dX7_whyNoBound_31 : decode cX7_whyNoBound 31 = .ok (.getfield 12, 3) := by decide +kernel
theorem dX7_whyNoBound_34 : decode cX7_whyNoBound 34 = .ok (.iload_n 2, 1) := by decide +kernel
theorem dX7_whyNoBound_35 : decode cX7_whyNoBound 35 = .ok (.invokevirtual 346, 3) := by decide +kernel
theorem dX7_whyNoBound_38 : decode cX7_whyNoBound 38 = .ok (.ireturn, 1) := by decide +kernel
theorem dX7_whyNoBound_39 : decode cX7_whyNoBound 39 = .ok (.aload_n 0, 1) := by decide +kernel
theorem dX7_whyNoBound_40 : decode cX7_whyNoBound 40 = .ok (.getfield 12, 3) := by decide +kernel
theorem dX7_whyNoBound_43 : decode cX7_whyNoBound 43 = .ok (.aload_n 0, 1) := by decide +kernel
theorem dX7_whyNoBound_44 : decode cX7_whyNoBound 44 = .ok (.getfield 12, 3) := by decide +kernel
theorem dX7_whyNoBound_47 : decode cX7_whyNoBound 47 = .ok (.getfield 145, 3) := by decide +kernel
theorem dX7_whyNoBound_50 : decode cX7_whyNoBound 50 = .ok (.invokevirtual 349, 3) := by decide +kernel
theorem dX7_whyNoBound_53 : decode cX7_whyNoBound 53 = .ok (.istore_n 3, 1) := by decide +kernel
theorem dX7_whyNoBound_54 : decode cX7_whyNoBound 54 = .ok (.iload_n 3, 1) := by decide +kernel
theorem dX7_whyNoBound_55 : decode cX7_whyNoBound 55 = .ok (.iconst (-1), 1) := by decide +kernel
theorem dX7_whyNoBound_56 : decode cX7_whyNoBound 56 = .ok (.if_icmp .eq 22, 3) := by decide +kernel
theorem dX7_whyNoBound_59 : decode cX7_whyNoBound 59 = .ok (.iload_n 1, 1) := by decide +kernel
theorem dX7_whyNoBound_60 : decode cX7_whyNoBound 60 = .ok (.ifCond .ne 7, 3) := by decide +kernel
theorem dX7_whyNoBound_63 : decode cX7_whyNoBound 63 = .ok (.iconst 2, 1) := by decide +kernel
theorem dX7_whyNoBound_64 : decode cX7_whyNoBound 64 = .ok (.goto 13, 3) := by decide +kernel
theorem dX7_whyNoBound_67 : decode cX7_whyNoBound 67 = .ok (.iload_n 1, 1) := by decide +kernel
theorem dX7_whyNoBound_68 : decode cX7_whyNoBound 68 = .ok (.iconst 1, 1) := by decide +kernel
theorem dX7_whyNoBound_69 : decode cX7_whyNoBound 69 = .ok (.if_icmp .ne 7, 3) := by decide +kernel
theorem dX7_whyNoBound_72 : decode cX7_whyNoBound 72 = .ok (.iload_n 3, 1) := by decide +kernel
theorem dX7_whyNoBound_73 : decode cX7_whyNoBound 73 = .ok (.goto 4, 3) := by decide +kernel
theorem dX7_whyNoBound_76 : decode cX7_whyNoBound 76 = .ok (.iconst (-1), 1) := by decide +kernel
theorem dX7_whyNoBound_77 : decode cX7_whyNoBound 77 = .ok (.ireturn, 1) := by decide +kernel
theorem dX7_whyNoBound_78 : decode cX7_whyNoBound 78 = .ok (.iload_n 1, 1) := by decide +kernel
theorem dX7_whyNoBound_79 : decode cX7_whyNoBound 79 = .ok (.ifCond .ne 7, 3) := by decide +kernel
theorem dX7_whyNoBound_82 : decode cX7_whyNoBound 82 = .ok (.iconst 0, 1) := by decide +kernel
theorem dX7_whyNoBound_83 : decode cX7_whyNoBound 83 = .ok (.goto 4, 3) := by decide +kernel
theorem dX7_whyNoBound_86 : decode cX7_whyNoBound 86 = .ok (.iconst (-1), 1) := by decide +kernel
theorem dX7_whyNoBound_87 : decode cX7_whyNoBound 87 = .ok (.ireturn, 1) := by decide +kernel
theorem dX7_product_0 : decode cX7_product 0 = .ok (.iconst 0, 1) := by decide +kernel
theorem dX7_product_1 : decode cX7_product 1 = .ok (.istore_n 2, 1) := by decide +kernel
theorem dX7_product_2 : decode cX7_product 2 = .ok (.iconst 0, 1) := by decide +kernel
theorem dX7_product_3 : decode cX7_product 3 = .ok (.istore_n 3, 1) := by decide +kernel
theorem dX7_product_4 : decode cX7_product 4 = .ok (.iload_n 3, 1) := by decide +kernel
theorem dX7_product_5 : decode cX7_product 5 = .ok (.iconst 4, 1) := by decide +kernel
theorem dX7_product_6 : decode cX7_product 6 = .ok (.if_icmp .ge 19, 3) := by decide +kernel
theorem dX7_product_9 : decode cX7_product 9 = .ok (.iload_n 2, 1) := by decide +kernel
theorem dX7_product_10 : decode cX7_product 10 = .ok (.aload_n 0, 1) := by decide +kernel
theorem dX7_product_11 : decode cX7_product 11 = .ok (.iload_n 3, 1) := by decide +kernel
theorem dX7_product_12 : decode cX7_product 12 = .ok (.iaload, 1) := by decide +kernel
theorem dX7_product_13 : decode cX7_product 13 = .ok (.aload_n 1, 1) := by decide +kernel
theorem dX7_product_14 : decode cX7_product 14 = .ok (.iload_n 3, 1) := by decide +kernel
theorem dX7_product_15 : decode cX7_product 15 = .ok (.iaload, 1) := by decide +kernel
theorem dX7_product_16 : decode cX7_product 16 = .ok (.imul, 1) := by decide +kernel
theorem dX7_product_17 : decode cX7_product 17 = .ok (.iadd, 1) := by decide +kernel
theorem dX7_product_18 : decode cX7_product 18 = .ok (.istore_n 2, 1) := by decide +kernel
theorem dX7_product_19 : decode cX7_product 19 = .ok (.iinc 3 1, 3) := by decide +kernel
theorem dX7_product_22 : decode cX7_product 22 = .ok (.goto (-18), 3) := by decide +kernel
theorem dX7_product_25 : decode cX7_product 25 = .ok (.iload_n 2, 1) := by decide +kernel
theorem dX7_product_26 : decode cX7_product 26 = .ok (.ireturn, 1) := by decide +kernel
theorem dJ6_bitCount_0f7a4_0 : decode cJ6_bitCount_0f7a4 0 = .ok (.iload_n 0, 1) := by decide +kernel
theorem dJ6_bitCount_0f7a4_1 : decode cJ6_bitCount_0f7a4 1 = .ok (.iload_n 0, 1) := by decide +kernel
theorem dJ6_bitCount_0f7a4_2 : decode cJ6_bitCount_0f7a4 2 = .ok (.iconst 1, 1) := by decide +kernel
theorem dJ6_bitCount_0f7a4_3 : decode cJ6_bitCount_0f7a4 3 = .ok (.iushr, 1) := by decide +kernel
theorem dJ6_bitCount_0f7a4_4 : decode cJ6_bitCount_0f7a4 4 = .ok (.ldc_w 265, 3) := by decide +kernel
theorem dJ6_bitCount_0f7a4_7 : decode cJ6_bitCount_0f7a4 7 = .ok (.iand, 1) := by decide +kernel
theorem dJ6_bitCount_0f7a4_8 : decode cJ6_bitCount_0f7a4 8 = .ok (.isub, 1) := by decide +kernel
theorem dJ6_bitCount_0f7a4_9 : decode cJ6_bitCount_0f7a4 9 = .ok (.istore_n 0, 1) := by decide +kernel
theorem dJ6_bitCount_0f7a4_10 : decode cJ6_bitCount_0f7a4 10 = .ok (.iload_n 0, 1) := by decide +kernel
theorem dJ6_bitCount_0f7a4_11 : decode cJ6_bitCount_0f7a4 11 = .ok (.ldc_w 266, 3) := by decide +kernel
theorem dJ6_bitCount_0f7a4_14 : decode cJ6_bitCount_0f7a4 14 = .ok (.iand, 1) := by decide +kernel
theorem dJ6_bitCount_0f7a4_15 : decode cJ6_bitCount_0f7a4 15 = .ok (.iload_n 0, 1) := by decide +kernel
theorem dJ6_bitCount_0f7a4_16 : decode cJ6_bitCount_0f7a4 16 = .ok (.iconst 2, 1) := by decide +kernel
theorem dJ6_bitCount_0f7a4_17 : decode cJ6_bitCount_0f7a4 17 = .ok (.iushr, 1) := by decide +kernel
theorem dJ6_bitCount_0f7a4_18 : decode cJ6_bitCount_0f7a4 18 = .ok (.ldc_w 266, 3) := by decide +kernel
theorem dJ6_bitCount_0f7a4_21 : decode cJ6_bitCount_0f7a4 21 = .ok (.iand, 1) := by decide +kernel
theorem dJ6_bitCount_0f7a4_22 : decode cJ6_bitCount_0f7a4 22 = .ok (.iadd, 1) := by decide +kernel
theorem dJ6_bitCount_0f7a4_23 : decode cJ6_bitCount_0f7a4 23 = .ok (.istore_n 0, 1) := by decide +kernel
theorem dJ6_bitCount_0f7a4_24 : decode cJ6_bitCount_0f7a4 24 = .ok (.iload_n 0, 1) := by decide +kernel
theorem dJ6_bitCount_0f7a4_25 : decode cJ6_bitCount_0f7a4 25 = .ok (.iload_n 0, 1) := by decide +kernel
theorem dJ6_bitCount_0f7a4_26 : decode cJ6_bitCount_0f7a4 26 = .ok (.iconst 4, 1) := by decide +kernel
theorem dJ6_bitCount_0f7a4_27 : decode cJ6_bitCount_0f7a4 27 = .ok (.iushr, 1) := by decide +kernel
theorem dJ6_bitCount_0f7a4_28 : decode cJ6_bitCount_0f7a4 28 = .ok (.iadd, 1) := by decide +kernel
theorem dJ6_bitCount_0f7a4_29 : decode cJ6_bitCount_0f7a4 29 = .ok (.ldc_w 267, 3) := by decide +kernel
theorem dJ6_bitCount_0f7a4_32 : decode cJ6_bitCount_0f7a4 32 = .ok (.iand, 1) := by decide +kernel
theorem dJ6_bitCount_0f7a4_33 : decode cJ6_bitCount_0f7a4 33 = .ok (.istore_n 0, 1) := by decide +kernel
theorem dJ6_bitCount_0f7a4_34 : decode cJ6_bitCount_0f7a4 34 = .ok (.iload_n 0, 1) := by decide +kernel
theorem dJ6_bitCount_0f7a4_35 : decode cJ6_bitCount_0f7a4 35 = .ok (.iload_n 0, 1) := by decide +kernel
theorem dJ6_bitCount_0f7a4_36 : decode cJ6_bitCount_0f7a4 36 = .ok (.bipush 8, 2) := by decide +kernel
theorem dJ6_bitCount_0f7a4_38 : decode cJ6_bitCount_0f7a4 38 = .ok (.iushr, 1) := by decide +kernel
theorem dJ6_bitCount_0f7a4_39 : decode cJ6_bitCount_0f7a4 39 = .ok (.iadd, 1) := by decide +kernel
theorem dJ6_bitCount_0f7a4_40 : decode cJ6_bitCount_0f7a4 40 = .ok (.istore_n 0, 1) := by decide +kernel
theorem dJ6_bitCount_0f7a4_41 : decode cJ6_bitCount_0f7a4 41 = .ok (.iload_n 0, 1) := by decide +kernel
theorem dJ6_bitCount_0f7a4_42 : decode cJ6_bitCount_0f7a4 42 = .ok (.iload_n 0, 1) := by decide +kernel
theorem dJ6_bitCount_0f7a4_43 : decode cJ6_bitCount_0f7a4 43 = .ok (.bipush 16, 2) := by decide +kernel
theorem dJ6_bitCount_0f7a4_45 : decode cJ6_bitCount_0f7a4 45 = .ok (.iushr, 1) := by decide +kernel
theorem dJ6_bitCount_0f7a4_46 : decode cJ6_bitCount_0f7a4 46 = .ok (.iadd, 1) := by decide +kernel
theorem dJ6_bitCount_0f7a4_47 : decode cJ6_bitCount_0f7a4 47 = .ok (.istore_n 0, 1) := by decide +kernel
theorem dJ6_bitCount_0f7a4_48 : decode cJ6_bitCount_0f7a4 48 = .ok (.iload_n 0, 1) := by decide +kernel
theorem dJ6_bitCount_0f7a4_49 : decode cJ6_bitCount_0f7a4 49 = .ok (.bipush 63, 2) := by decide +kernel
theorem dJ6_bitCount_0f7a4_51 : decode cJ6_bitCount_0f7a4 51 = .ok (.iand, 1) := by decide +kernel
theorem dJ6_bitCount_0f7a4_52 : decode cJ6_bitCount_0f7a4 52 = .ok (.ireturn, 1) := by decide +kernel
theorem dJ9_max_7cf53_0 : decode cJ9_max_7cf53 0 = .ok (.iload_n 0, 1) := by decide +kernel
theorem dJ9_max_7cf53_1 : decode cJ9_max_7cf53 1 = .ok (.iload_n 1, 1) := by decide +kernel
theorem dJ9_max_7cf53_2 : decode cJ9_max_7cf53 2 = .ok (.if_icmp .lt 7, 3) := by decide +kernel
theorem dJ9_max_7cf53_5 : decode cJ9_max_7cf53 5 = .ok (.iload_n 0, 1) := by decide +kernel
theorem dJ9_max_7cf53_6 : decode cJ9_max_7cf53 6 = .ok (.goto 4, 3) := by decide +kernel
theorem dJ9_max_7cf53_9 : decode cJ9_max_7cf53 9 = .ok (.iload_n 1, 1) := by decide +kernel
theorem dJ9_max_7cf53_10 : decode cJ9_max_7cf53 10 = .ok (.ireturn, 1) := by decide +kernel
theorem dJ9_min_7cf53_0 : decode cJ9_min_7cf53 0 = .ok (.iload_n 0, 1) := by decide +kernel
theorem dJ9_min_7cf53_1 : decode cJ9_min_7cf53 1 = .ok (.iload_n 1, 1) := by decide +kernel
theorem dJ9_min_7cf53_2 : decode cJ9_min_7cf53 2 = .ok (.if_icmp .gt 7, 3) := by decide +kernel
theorem dJ9_min_7cf53_5 : decode cJ9_min_7cf53 5 = .ok (.iload_n 0, 1) := by decide +kernel
theorem dJ9_min_7cf53_6 : decode cJ9_min_7cf53 6 = .ok (.goto 4, 3) := by decide +kernel
theorem dJ9_min_7cf53_9 : decode cJ9_min_7cf53 9 = .ok (.iload_n 1, 1) := by decide +kernel
theorem dJ9_min_7cf53_10 : decode cJ9_min_7cf53 10 = .ok (.ireturn, 1) := by decide +kernel
theorem dJ7_fill_53178_0 : decode cJ7_fill_53178 0 = .ok (.iconst 0, 1) := by decide +kernel
theorem dJ7_fill_53178_1 : decode cJ7_fill_53178 1 = .ok (.istore_n 2, 1) := by decide +kernel
theorem dJ7_fill_53178_2 : decode cJ7_fill_53178 2 = .ok (.aload_n 0, 1) := by decide +kernel
theorem dJ7_fill_53178_3 : decode cJ7_fill_53178 3 = .ok (.arraylength, 1) := by decide +kernel
theorem dJ7_fill_53178_4 : decode cJ7_fill_53178 4 = .ok (.istore_n 3, 1) := by decide +kernel
theorem dJ7_fill_53178_5 : decode cJ7_fill_53178 5 = .ok (.iload_n 2, 1) := by decide +kernel
theorem dJ7_fill_53178_6 : decode cJ7_fill_53178 6 = .ok (.iload_n 3, 1) := by decide +kernel
theorem dJ7_fill_53178_7 : decode cJ7_fill_53178 7 = .ok (.if_icmp .ge 13, 3) := by decide +kernel
theorem dJ7_fill_53178_10 : decode cJ7_fill_53178 10 = .ok (.aload_n 0, 1) := by decide +kernel
theorem dJ7_fill_53178_11 : decode cJ7_fill_53178 11 = .ok (.iload_n 2, 1) := by decide +kernel
theorem dJ7_fill_53178_12 : decode cJ7_fill_53178 12 = .ok (.iload_n 1, 1) := by decide +kernel
theorem dJ7_fill_53178_13 : decode cJ7_fill_53178 13 = .ok (.iastore, 1) := by decide +kernel
theorem dJ7_fill_53178_14 : decode cJ7_fill_53178 14 = .ok (.iinc 2 1, 3) := by decide +kernel
theorem dJ7_fill_53178_17 : decode cJ7_fill_53178 17 = .ok (.goto (-12), 3) := by decide +kernel
theorem dJ7_fill_53178_20 : decode cJ7_fill_53178 20 = .ok (.return_, 1) := by decide +kernel
theorem dL_cell_0 : decode cL_cell 0 = .ok (.iload_n 1, 1) := by decide +kernel
theorem dL_cell_1 : decode cL_cell 1 = .ok (.aload_n 0, 1) := by decide +kernel
theorem dL_cell_2 : decode cL_cell 2 = .ok (.arraylength, 1) := by decide +kernel
theorem dL_cell_3 : decode cL_cell 3 = .ok (.if_icmp .ge 9, 3) := by decide +kernel
theorem dL_cell_6 : decode cL_cell 6 = .ok (.aload_n 0, 1) := by decide +kernel
theorem dL_cell_7 : decode cL_cell 7 = .ok (.iload_n 1, 1) := by decide +kernel
theorem dL_cell_8 : decode cL_cell 8 = .ok (.iaload, 1) := by decide +kernel
theorem dL_cell_9 : decode cL_cell 9 = .ok (.goto 11, 3) := by decide +kernel
theorem dL_cell_12 : decode cL_cell 12 = .ok (.ldc 7, 2) := by decide +kernel
theorem dL_cell_14 : decode cL_cell 14 = .ok (.iload_n 1, 1) := by decide +kernel
theorem dL_cell_15 : decode cL_cell 15 = .ok (.sipush 283, 3) := by decide +kernel
theorem dL_cell_18 : decode cL_cell 18 = .ok (.iadd, 1) := by decide +kernel
theorem dL_cell_19 : decode cL_cell 19 = .ok (.imul, 1) := by decide +kernel
theorem dL_cell_20 : decode cL_cell 20 = .ok (.ireturn, 1) := by decide +kernel
theorem dL_at_0 : decode cL_at 0 = .ok (.iload_n 0, 1) := by decide +kernel
theorem dL_at_1 : decode cL_at 1 = .ok (.iconst 1, 1) := by decide +kernel
theorem dL_at_2 : decode cL_at 2 = .ok (.iushr, 1) := by decide +kernel
theorem dL_at_3 : decode cL_at 3 = .ok (.iload_n 1, 1) := by decide +kernel
theorem dL_at_4 : decode cL_at 4 = .ok (.irem, 1) := by decide +kernel
theorem dL_at_5 : decode cL_at 5 = .ok (.ireturn, 1) := by decide +kernel
theorem dL_product_0 : decode cL_product 0 = .ok (.iconst 0, 1) := by decide +kernel
theorem dL_product_1 : decode cL_product 1 = .ok (.istore 4, 2) := by decide +kernel
theorem dL_product_3 : decode cL_product 3 = .ok (.iconst 0, 1) := by decide +kernel
theorem dL_product_4 : decode cL_product 4 = .ok (.istore 5, 2) := by decide +kernel
theorem dL_product_6 : decode cL_product 6 = .ok (.iload 5, 2) := by decide +kernel
theorem dL_product_8 : decode cL_product 8 = .ok (.iconst 4, 1) := by decide +kernel
theorem dL_product_9 : decode cL_product 9 = .ok (.if_icmp .ge 31, 3) := by decide +kernel
theorem dL_product_12 : decode cL_product 12 = .ok (.iload 4, 2) := by decide +kernel
theorem dL_product_14 : decode cL_product 14 = .ok (.aload_n 0, 1) := by decide +kernel
theorem dL_product_15 : decode cL_product 15 = .ok (.iconst 4, 1) := by decide +kernel
theorem dL_product_16 : decode cL_product 16 = .ok (.iload_n 1, 1) := by decide +kernel
theorem dL_product_17 : decode cL_product 17 = .ok (.imul, 1) := by decide +kernel
theorem dL_product_18 : decode cL_product 18 = .ok (.iload 5, 2) := by decide +kernel
theorem dL_product_20 : decode cL_product 20 = .ok (.iadd, 1) := by decide +kernel
theorem dL_product_21 : decode cL_product 21 = .ok (.iaload, 1) := by decide +kernel
theorem dL_product_22 : decode cL_product 22 = .ok (.aload_n 2, 1) := by decide +kernel
theorem dL_product_23 : decode cL_product 23 = .ok (.iconst 4, 1) := by decide +kernel
theorem dL_product_24 : decode cL_product 24 = .ok (.iload_n 3, 1) := by decide +kernel
theorem dL_product_25 : decode cL_product 25 = .ok (.imul, 1) := by decide +kernel
theorem dL_product_26 : decode cL_product 26 = .ok (.iload 5, 2) := by decide +kernel
theorem dL_product_28 : decode cL_product 28 = .ok (.iadd, 1) := by decide +kernel
theorem dL_product_29 : decode cL_product 29 = .ok (.iaload, 1) := by decide +kernel
theorem dL_product_30 : decode cL_product 30 = .ok (.imul, 1) := by decide +kernel
theorem dL_product_31 : decode cL_product 31 = .ok (.iadd, 1) := by decide +kernel
theorem dL_product_32 : decode cL_product 32 = .ok (.istore 4, 2) := by decide +kernel
theorem dL_product_34 : decode cL_product 34 = .ok (.iinc 5 1, 3) := by decide +kernel
theorem dL_product_37 : decode cL_product 37 = .ok (.goto (-31), 3) := by decide +kernel
theorem dL_product_40 : decode cL_product 40 = .ok (.iload 4, 2) := by decide +kernel
theorem dL_product_42 : decode cL_product 42 = .ok (.ireturn, 1) := by decide +kernel
theorem dL_misfit_0 : decode cL_misfit 0 = .ok (.iconst 0, 1) := by decide +kernel
theorem dL_misfit_1 : decode cL_misfit 1 = .ok (.istore_n 3, 1) := by decide +kernel
theorem dL_misfit_2 : decode cL_misfit 2 = .ok (.iload_n 3, 1) := by decide +kernel
theorem dL_misfit_3 : decode cL_misfit 3 = .ok (.aload_n 0, 1) := by decide +kernel
theorem dL_misfit_4 : decode cL_misfit 4 = .ok (.iconst 0, 1) := by decide +kernel
theorem dL_misfit_5 : decode cL_misfit 5 = .ok (.iaload, 1) := by decide +kernel
theorem dL_misfit_6 : decode cL_misfit 6 = .ok (.if_icmp .ge 58, 3) := by decide +kernel
theorem dL_misfit_9 : decode cL_misfit 9 = .ok (.iload_n 3, 1) := by decide +kernel
theorem dL_misfit_10 : decode cL_misfit 10 = .ok (.iconst 1, 1) := by decide +kernel
theorem dL_misfit_11 : decode cL_misfit 11 = .ok (.iadd, 1) := by decide +kernel
theorem dL_misfit_12 : decode cL_misfit 12 = .ok (.istore 4, 2) := by decide +kernel
theorem dL_misfit_14 : decode cL_misfit 14 = .ok (.iload 4, 2) := by decide +kernel
theorem dL_misfit_16 : decode cL_misfit 16 = .ok (.aload_n 0, 1) := by decide +kernel
theorem dL_misfit_17 : decode cL_misfit 17 = .ok (.iconst 0, 1) := by decide +kernel
theorem dL_misfit_18 : decode cL_misfit 18 = .ok (.iaload, 1) := by decide +kernel
theorem dL_misfit_19 : decode cL_misfit 19 = .ok (.if_icmp .ge 39, 3) := by decide +kernel
theorem dL_misfit_22 : decode cL_misfit 22 = .ok (.aload_n 1, 1) := by decide +kernel
theorem dL_misfit_23 : decode cL_misfit 23 = .ok (.iconst 4, 1) := by decide +kernel
theorem dL_misfit_24 : decode cL_misfit 24 = .ok (.iload_n 3, 1) := by decide +kernel
theorem dL_misfit_25 : decode cL_misfit 25 = .ok (.imul, 1) := by decide +kernel
theorem dL_misfit_26 : decode cL_misfit 26 = .ok (.iload 4, 2) := by decide +kernel
theorem dL_misfit_28 : decode cL_misfit 28 = .ok (.iadd, 1) := by decide +kernel
theorem dL_misfit_29 : decode cL_misfit 29 = .ok (.iaload, 1) := by decide +kernel
theorem dL_misfit_30 : decode cL_misfit 30 = .ok (.iconst 1, 1) := by decide +kernel
theorem dL_misfit_31 : decode cL_misfit 31 = .ok (.if_icmp .ne 21, 3) := by decide +kernel
theorem dL_misfit_34 : decode cL_misfit 34 = .ok (.aload_n 2, 1) := by decide +kernel
theorem dL_misfit_35 : decode cL_misfit 35 = .ok (.iload_n 3, 1) := by decide +kernel
theorem dL_misfit_36 : decode cL_misfit 36 = .ok (.aload_n 2, 1) := by decide +kernel
theorem dL_misfit_37 : decode cL_misfit 37 = .ok (.iload 4, 2) := by decide +kernel
theorem dL_misfit_39 : decode cL_misfit 39 = .ok (.invokestatic 8, 3) := by decide +kernel
theorem dL_misfit_42 : decode cL_misfit 42 = .ok (.ifCond .eq 10, 3) := by decide +kernel
theorem dL_misfit_45 : decode cL_misfit 45 = .ok (.iconst 4, 1) := by decide +kernel
theorem dL_misfit_46 : decode cL_misfit 46 = .ok (.iload_n 3, 1) := by decide +kernel
theorem dL_misfit_47 : decode cL_misfit 47 = .ok (.imul, 1) := by decide +kernel
theorem dL_misfit_48 : decode cL_misfit 48 = .ok (.iload 4, 2) := by decide +kernel
theorem dL_misfit_50 : decode cL_misfit 50 = .ok (.iadd, 1) := by decide +kernel
theorem dL_misfit_51 : decode cL_misfit 51 = .ok (.ireturn, 1) := by decide +kernel
theorem dL_misfit_52 : decode cL_misfit 52 = .ok (.iinc 4 1, 3) := by decide +kernel
theorem dL_misfit_55 : decode cL_misfit 55 = .ok (.goto (-41), 3) := by decide +kernel
theorem dL_misfit_58 : decode cL_misfit 58 = .ok (.iinc 3 1, 3) := by decide +kernel
theorem dL_misfit_61 : decode cL_misfit 61 = .ok (.goto (-59), 3) := by decide +kernel
theorem dL_misfit_64 : decode cL_misfit 64 = .ok (.iconst (-1), 1) := by decide +kernel
theorem dL_misfit_65 : decode cL_misfit 65 = .ok (.ireturn, 1) := by decide +kernel
theorem dL_unreached_0 : decode cL_unreached 0 = .ok (.iconst 0, 1) := by decide +kernel
theorem dL_unreached_1 : decode cL_unreached 1 = .ok (.istore 4, 2) := by decide +kernel
theorem dL_unreached_3 : decode cL_unreached 3 = .ok (.iload 4, 2) := by decide +kernel
theorem dL_unreached_5 : decode cL_unreached 5 = .ok (.aload_n 0, 1) := by decide +kernel
theorem dL_unreached_6 : decode cL_unreached 6 = .ok (.iconst 0, 1) := by decide +kernel
theorem dL_unreached_7 : decode cL_unreached 7 = .ok (.iaload, 1) := by decide +kernel
theorem dL_unreached_8 : decode cL_unreached 8 = .ok (.if_icmp .ge 30, 3) := by decide +kernel
theorem dL_unreached_11 : decode cL_unreached 11 = .ok (.aload_n 1, 1) := by decide +kernel
theorem dL_unreached_12 : decode cL_unreached 12 = .ok (.iload 4, 2) := by decide +kernel
theorem dL_unreached_14 : decode cL_unreached 14 = .ok (.iaload, 1) := by decide +kernel
theorem dL_unreached_15 : decode cL_unreached 15 = .ok (.ifCond .le 17, 3) := by decide +kernel
theorem dL_unreached_18 : decode cL_unreached 18 = .ok (.aload_n 2, 1) := by decide +kernel
theorem dL_unreached_19 : decode cL_unreached 19 = .ok (.iload 4, 2) := by decide +kernel
theorem dL_unreached_21 : decode cL_unreached 21 = .ok (.aload_n 3, 1) := by decide +kernel
theorem dL_unreached_22 : decode cL_unreached 22 = .ok (.iconst 0, 1) := by decide +kernel
theorem dL_unreached_23 : decode cL_unreached 23 = .ok (.invokestatic 8, 3) := by decide +kernel
theorem dL_unreached_26 : decode cL_unreached 26 = .ok (.ifCond .ne 6, 3) := by decide +kernel
theorem dL_unreached_29 : decode cL_unreached 29 = .ok (.iload 4, 2) := by decide +kernel
theorem dL_unreached_31 : decode cL_unreached 31 = .ok (.ireturn, 1) := by decide +kernel
theorem dL_unreached_32 : decode cL_unreached 32 = .ok (.iinc 4 1, 3) := by decide +kernel
theorem dL_unreached_35 : decode cL_unreached 35 = .ok (.goto (-32), 3) := by decide +kernel
theorem dL_unreached_38 : decode cL_unreached 38 = .ok (.iconst (-1), 1) := by decide +kernel
theorem dL_unreached_39 : decode cL_unreached 39 = .ok (.ireturn, 1) := by decide +kernel
theorem dL_gcd_0 : decode cL_gcd 0 = .ok (.lload_n 0, 1) := by decide +kernel
theorem dL_gcd_1 : decode cL_gcd 1 = .ok (.lstore 4, 2) := by decide +kernel
theorem dL_gcd_3 : decode cL_gcd 3 = .ok (.lload_n 2, 1) := by decide +kernel
theorem dL_gcd_4 : decode cL_gcd 4 = .ok (.lstore 6, 2) := by decide +kernel
theorem dL_gcd_6 : decode cL_gcd 6 = .ok (.lload 4, 2) := by decide +kernel
theorem dL_gcd_8 : decode cL_gcd 8 = .ok (.lconst 0, 1) := by decide +kernel
theorem dL_gcd_9 : decode cL_gcd 9 = .ok (.lcmp, 1) := by decide +kernel
theorem dL_gcd_10 : decode cL_gcd 10 = .ok (.ifCond .eq 21, 3) := by decide +kernel
theorem dL_gcd_13 : decode cL_gcd 13 = .ok (.lload 6, 2) := by decide +kernel
theorem dL_gcd_15 : decode cL_gcd 15 = .ok (.lload 4, 2) := by decide +kernel
theorem dL_gcd_17 : decode cL_gcd 17 = .ok (.lrem, 1) := by decide +kernel
theorem dL_gcd_18 : decode cL_gcd 18 = .ok (.lstore 8, 2) := by decide +kernel
theorem dL_gcd_20 : decode cL_gcd 20 = .ok (.lload 4, 2) := by decide +kernel
theorem dL_gcd_22 : decode cL_gcd 22 = .ok (.lstore 6, 2) := by decide +kernel
theorem dL_gcd_24 : decode cL_gcd 24 = .ok (.lload 8, 2) := by decide +kernel
theorem dL_gcd_26 : decode cL_gcd 26 = .ok (.lstore 4, 2) := by decide +kernel
theorem dL_gcd_28 : decode cL_gcd 28 = .ok (.goto (-22), 3) := by decide +kernel
theorem dL_gcd_31 : decode cL_gcd 31 = .ok (.lload 6, 2) := by decide +kernel
theorem dL_gcd_33 : decode cL_gcd 33 = .ok (.lreturn, 1) := by decide +kernel
theorem dL_bound_0 : decode cL_bound 0 = .ok (.aload_n 1, 1) := by decide +kernel
theorem dL_bound_1 : decode cL_bound 1 = .ok (.aload_n 3, 1) := by decide +kernel
theorem dL_bound_2 : decode cL_bound 2 = .ok (.aload 4, 2) := by decide +kernel
theorem dL_bound_4 : decode cL_bound 4 = .ok (.invokestatic 14, 3) := by decide +kernel
theorem dL_bound_7 : decode cL_bound 7 = .ok (.istore 6, 2) := by decide +kernel
theorem dL_bound_9 : decode cL_bound 9 = .ok (.aload_n 1, 1) := by decide +kernel
theorem dL_bound_10 : decode cL_bound 10 = .ok (.aload_n 2, 1) := by decide +kernel
theorem dL_bound_11 : decode cL_bound 11 = .ok (.aload 4, 2) := by decide +kernel
theorem dL_bound_13 : decode cL_bound 13 = .ok (.aload 5, 2) := by decide +kernel
theorem dL_bound_15 : decode cL_bound 15 = .ok (.invokestatic 18, 3) := by decide +kernel
theorem dL_bound_18 : decode cL_bound 18 = .ok (.istore 7, 2) := by decide +kernel
theorem dL_bound_20 : decode cL_bound 20 = .ok (.iload 6, 2) := by decide +kernel
theorem dL_bound_22 : decode cL_bound 22 = .ok (.ifCond .lt 75, 3) := by decide +kernel
theorem dL_bound_25 : decode cL_bound 25 = .ok (.aload_n 0, 1) := by decide +kernel
theorem dL_bound_26 : decode cL_bound 26 = .ok (.iconst 0, 1) := by decide +kernel
theorem dL_bound_27 : decode cL_bound 27 = .ok (.invokevirtual 22, 3) := by decide +kernel
theorem dL_bound_30 : decode cL_bound 30 = .ok (.iconst 1, 1) := by decide +kernel
theorem dL_bound_31 : decode cL_bound 31 = .ok (.if_icmp .ne 64, 3) := by decide +kernel
theorem dL_bound_34 : decode cL_bound 34 = .ok (.aload_n 0, 1) := by decide +kernel
theorem dL_bound_35 : decode cL_bound 35 = .ok (.iconst 1, 1) := by decide +kernel
theorem dL_bound_36 : decode cL_bound 36 = .ok (.invokevirtual 22, 3) := by decide +kernel
theorem dL_bound_39 : decode cL_bound 39 = .ok (.iload 6, 2) := by decide +kernel
theorem dL_bound_41 : decode cL_bound 41 = .ok (.iconst 4, 1) := by decide +kernel
theorem dL_bound_42 : decode cL_bound 42 = .ok (.idiv, 1) := by decide +kernel
theorem dL_bound_43 : decode cL_bound 43 = .ok (.if_icmp .ne 52, 3) := by decide +kernel
theorem dL_bound_46 : decode cL_bound 46 = .ok (.aload_n 0, 1) := by decide +kernel
theorem dL_bound_47 : decode cL_bound 47 = .ok (.iconst 2, 1) := by decide +kernel
theorem dL_bound_48 : decode cL_bound 48 = .ok (.invokevirtual 22, 3) := by decide +kernel
theorem dL_bound_51 : decode cL_bound 51 = .ok (.iload 6, 2) := by decide +kernel
theorem dL_bound_53 : decode cL_bound 53 = .ok (.iconst 4, 1) := by decide +kernel
theorem dL_bound_54 : decode cL_bound 54 = .ok (.irem, 1) := by decide +kernel
theorem dL_bound_55 : decode cL_bound 55 = .ok (.if_icmp .ne 40, 3) := by decide +kernel
theorem dL_bound_58 : decode cL_bound 58 = .ok (.aload_n 0, 1) := by decide +kernel
theorem dL_bound_59 : decode cL_bound 59 = .ok (.iconst 0, 1) := by decide +kernel
theorem dL_bound_60 : decode cL_bound 60 = .ok (.invokevirtual 28, 3) := by decide +kernel
theorem dL_bound_63 : decode cL_bound 63 = .ok (.ldc2_w 32, 3) := by decide +kernel
theorem dL_bound_66 : decode cL_bound 66 = .ok (.lcmp, 1) := by decide +kernel
theorem dL_bound_67 : decode cL_bound 67 = .ok (.ifCond .ne 28, 3) := by decide +kernel
theorem dL_bound_70 : decode cL_bound 70 = .ok (.aload_n 0, 1) := by decide +kernel
theorem dL_bound_71 : decode cL_bound 71 = .ok (.iconst 2, 1) := by decide +kernel
theorem dL_bound_72 : decode cL_bound 72 = .ok (.invokevirtual 28, 3) := by decide +kernel
theorem dL_bound_75 : decode cL_bound 75 = .ok (.ldc2_w 32, 3) := by decide +kernel
theorem dL_bound_78 : decode cL_bound 78 = .ok (.lcmp, 1) := by decide +kernel
theorem dL_bound_79 : decode cL_bound 79 = .ok (.ifCond .ne 16, 3) := by decide +kernel
theorem dL_bound_82 : decode cL_bound 82 = .ok (.aload_n 0, 1) := by decide +kernel
theorem dL_bound_83 : decode cL_bound 83 = .ok (.invokevirtual 34, 3) := by decide +kernel
theorem dL_bound_86 : decode cL_bound 86 = .ok (.dconst 0, 1) := by decide +kernel
theorem dL_bound_87 : decode cL_bound 87 = .ok (.dcmp .l, 1) := by decide +kernel
theorem dL_bound_88 : decode cL_bound 88 = .ok (.ifCond .ne 7, 3) := by decide +kernel
theorem dL_bound_91 : decode cL_bound 91 = .ok (.iconst 1, 1) := by decide +kernel
theorem dL_bound_92 : decode cL_bound 92 = .ok (.goto 4, 3) := by decide +kernel
theorem dL_bound_95 : decode cL_bound 95 = .ok (.iconst 0, 1) := by decide +kernel
theorem dL_bound_96 : decode cL_bound 96 = .ok (.ireturn, 1) := by decide +kernel
theorem dL_bound_97 : decode cL_bound 97 = .ok (.iload 7, 2) := by decide +kernel
theorem dL_bound_99 : decode cL_bound 99 = .ok (.ifCond .lt 49, 3) := by decide +kernel
theorem dL_bound_102 : decode cL_bound 102 = .ok (.aload_n 0, 1) := by decide +kernel
theorem dL_bound_103 : decode cL_bound 103 = .ok (.iconst 0, 1) := by decide +kernel
theorem dL_bound_104 : decode cL_bound 104 = .ok (.invokevirtual 22, 3) := by decide +kernel
theorem dL_bound_107 : decode cL_bound 107 = .ok (.iconst 2, 1) := by decide +kernel
theorem dL_bound_108 : decode cL_bound 108 = .ok (.if_icmp .ne 38, 3) := by decide +kernel
theorem dL_bound_111 : decode cL_bound 111 = .ok (.aload_n 0, 1) := by decide +kernel
theorem dL_bound_112 : decode cL_bound 112 = .ok (.iconst 1, 1) := by decide +kernel
theorem dL_bound_113 : decode cL_bound 113 = .ok (.invokevirtual 22, 3) := by decide +kernel
theorem dL_bound_116 : decode cL_bound 116 = .ok (.iload 7, 2) := by decide +kernel
theorem dL_bound_118 : decode cL_bound 118 = .ok (.if_icmp .ne 28, 3) := by decide +kernel
theorem dL_bound_121 : decode cL_bound 121 = .ok (.aload_n 0, 1) := by decide +kernel
theorem dL_bound_122 : decode cL_bound 122 = .ok (.iconst 2, 1) := by decide +kernel
theorem dL_bound_123 : decode cL_bound 123 = .ok (.invokevirtual 22, 3) := by decide +kernel
theorem dL_bound_126 : decode cL_bound 126 = .ok (.iconst (-1), 1) := by decide +kernel
theorem dL_bound_127 : decode cL_bound 127 = .ok (.if_icmp .ne 19, 3) := by decide +kernel
theorem dL_bound_130 : decode cL_bound 130 = .ok (.aload_n 0, 1) := by decide +kernel
theorem dL_bound_131 : decode cL_bound 131 = .ok (.iconst 1, 1) := by decide +kernel
theorem dL_bound_132 : decode cL_bound 132 = .ok (.invokevirtual 28, 3) := by decide +kernel
theorem dL_bound_135 : decode cL_bound 135 = .ok (.ldc2_w 32, 3) := by decide +kernel
theorem dL_bound_138 : decode cL_bound 138 = .ok (.lcmp, 1) := by decide +kernel
theorem dL_bound_139 : decode cL_bound 139 = .ok (.ifCond .ne 7, 3) := by decide +kernel
theorem dL_bound_142 : decode cL_bound 142 = .ok (.iconst 1, 1) := by decide +kernel
theorem dL_bound_143 : decode cL_bound 143 = .ok (.goto 4, 3) := by decide +kernel
theorem dL_bound_146 : decode cL_bound 146 = .ok (.iconst 0, 1) := by decide +kernel
theorem dL_bound_147 : decode cL_bound 147 = .ok (.ireturn, 1) := by decide +kernel
theorem dL_bound_148 : decode cL_bound 148 = .ok (.lconst 0, 1) := by decide +kernel
theorem dL_bound_149 : decode cL_bound 149 = .ok (.lstore 8, 2) := by decide +kernel
theorem dL_bound_151 : decode cL_bound 151 = .ok (.lconst 1, 1) := by decide +kernel
theorem dL_bound_152 : decode cL_bound 152 = .ok (.lstore 10, 2) := by decide +kernel
theorem dL_bound_154 : decode cL_bound 154 = .ok (.iconst (-1), 1) := by decide +kernel
theorem dL_bound_155 : decode cL_bound 155 = .ok (.istore 12, 2) := by decide +kernel
theorem dL_bound_157 : decode cL_bound 157 = .ok (.aload_n 1, 1) := by decide +kernel
theorem dL_bound_158 : decode cL_bound 158 = .ok (.iconst 0, 1) := by decide +kernel
theorem dL_bound_159 : decode cL_bound 159 = .ok (.iaload, 1) := by decide +kernel
theorem dL_bound_160 : decode cL_bound 160 = .ok (.iconst 1, 1) := by decide +kernel
theorem dL_bound_161 : decode cL_bound 161 = .ok (.isub, 1) := by decide +kernel
theorem dL_bound_162 : decode cL_bound 162 = .ok (.istore 13, 2) := by decide +kernel
theorem dL_bound_164 : decode cL_bound 164 = .ok (.iload 13, 2) := by decide +kernel
theorem dL_bound_166 : decode cL_bound 166 = .ok (.ifCond .lt 98, 3) := by decide +kernel
theorem dL_bound_169 : decode cL_bound 169 = .ok (.aload_n 2, 1) := by decide +kernel
theorem dL_bound_170 : decode cL_bound 170 = .ok (.iload 13, 2) := by decide +kernel
theorem dL_bound_172 : decode cL_bound 172 = .ok (.iaload, 1) := by decide +kernel
theorem dL_bound_173 : decode cL_bound 173 = .ok (.ifCond .le 85, 3) := by decide +kernel
theorem dL_bound_176 : decode cL_bound 176 = .ok (.aload_n 2, 1) := by decide +kernel
theorem dL_bound_177 : decode cL_bound 177 = .ok (.iload 13, 2) := by decide +kernel
theorem dL_bound_179 : decode cL_bound 179 = .ok (.iaload, 1) := by decide +kernel
theorem dL_bound_180 : decode cL_bound 180 = .ok (.i2l, 1) := by decide +kernel
theorem dL_bound_181 : decode cL_bound 181 = .ok (.aload 5, 2) := by decide +kernel
theorem dL_bound_183 : decode cL_bound 183 = .ok (.iconst 0, 1) := by decide +kernel
theorem dL_bound_184 : decode cL_bound 184 = .ok (.aload 5, 2) := by decide +kernel
theorem dL_bound_186 : decode cL_bound 186 = .ok (.iconst 0, 1) := by decide +kernel
theorem dL_bound_187 : decode cL_bound 187 = .ok (.invokestatic 8, 3) := by decide +kernel
theorem dL_bound_190 : decode cL_bound 190 = .ok (.i2l, 1) := by decide +kernel
theorem dL_bound_191 : decode cL_bound 191 = .ok (.lmul, 1) := by decide +kernel
theorem dL_bound_192 : decode cL_bound 192 = .ok (.aload 4, 2) := by decide +kernel
theorem dL_bound_194 : decode cL_bound 194 = .ok (.iload 13, 2) := by decide +kernel
theorem dL_bound_196 : decode cL_bound 196 = .ok (.aload 4, 2) := by decide +kernel
theorem dL_bound_198 : decode cL_bound 198 = .ok (.iload 13, 2) := by decide +kernel
theorem dL_bound_200 : decode cL_bound 200 = .ok (.invokestatic 8, 3) := by decide +kernel
theorem dL_bound_203 : decode cL_bound 203 = .ok (.i2l, 1) := by decide +kernel
theorem dL_bound_204 : decode cL_bound 204 = .ok (.lmul, 1) := by decide +kernel
theorem dL_bound_205 : decode cL_bound 205 = .ok (.lstore 14, 2) := by decide +kernel
theorem dL_bound_207 : decode cL_bound 207 = .ok (.aload 4, 2) := by decide +kernel
theorem dL_bound_209 : decode cL_bound 209 = .ok (.iload 13, 2) := by decide +kernel
theorem dL_bound_211 : decode cL_bound 211 = .ok (.aload 5, 2) := by decide +kernel
theorem dL_bound_213 : decode cL_bound 213 = .ok (.iconst 0, 1) := by decide +kernel
theorem dL_bound_214 : decode cL_bound 214 = .ok (.invokestatic 8, 3) := by decide +kernel
theorem dL_bound_217 : decode cL_bound 217 = .ok (.i2l, 1) := by decide +kernel
theorem dL_bound_218 : decode cL_bound 218 = .ok (.aload 4, 2) := by decide +kernel
theorem dL_bound_220 : decode cL_bound 220 = .ok (.iload 13, 2) := by decide +kernel
theorem dL_bound_222 : decode cL_bound 222 = .ok (.aload 5, 2) := by decide +kernel
theorem dL_bound_224 : decode cL_bound 224 = .ok (.iconst 0, 1) := by decide +kernel
theorem dL_bound_225 : decode cL_bound 225 = .ok (.invokestatic 8, 3) := by decide +kernel
theorem dL_bound_228 : decode cL_bound 228 = .ok (.i2l, 1) := by decide +kernel
theorem dL_bound_229 : decode cL_bound 229 = .ok (.lmul, 1) := by decide +kernel
theorem dL_bound_230 : decode cL_bound 230 = .ok (.lstore 16, 2) := by decide +kernel
theorem dL_bound_232 : decode cL_bound 232 = .ok (.lload 14, 2) := by decide +kernel
theorem dL_bound_234 : decode cL_bound 234 = .ok (.lload 10, 2) := by decide +kernel
theorem dL_bound_236 : decode cL_bound 236 = .ok (.lmul, 1) := by decide +kernel
theorem dL_bound_237 : decode cL_bound 237 = .ok (.lload 8, 2) := by decide +kernel
theorem dL_bound_239 : decode cL_bound 239 = .ok (.lload 16, 2) := by decide +kernel
theorem dL_bound_241 : decode cL_bound 241 = .ok (.lmul, 1) := by decide +kernel
theorem dL_bound_242 : decode cL_bound 242 = .ok (.lcmp, 1) := by decide +kernel
theorem dL_bound_243 : decode cL_bound 243 = .ok (.ifCond .lt 15, 3) := by decide +kernel
theorem dL_bound_246 : decode cL_bound 246 = .ok (.lload 14, 2) := by decide +kernel
theorem dL_bound_248 : decode cL_bound 248 = .ok (.lstore 8, 2) := by decide +kernel
theorem dL_bound_250 : decode cL_bound 250 = .ok (.lload 16, 2) := by decide +kernel
theorem dL_bound_252 : decode cL_bound 252 = .ok (.lstore 10, 2) := by decide +kernel
theorem dL_bound_254 : decode cL_bound 254 = .ok (.iload 13, 2) := by decide +kernel
theorem dL_bound_256 : decode cL_bound 256 = .ok (.istore 12, 2) := by decide +kernel
theorem dL_bound_258 : decode cL_bound 258 = .ok (.iinc 13 (-1), 3) := by decide +kernel
theorem dL_bound_261 : decode cL_bound 261 = .ok (.goto (-97), 3) := by decide +kernel
theorem dL_bound_264 : decode cL_bound 264 = .ok (.lload 8, 2) := by decide +kernel
theorem dL_bound_266 : decode cL_bound 266 = .ok (.lload 10, 2) := by decide +kernel
theorem dL_bound_268 : decode cL_bound 268 = .ok (.invokestatic 38, 3) := by decide +kernel
theorem dL_bound_271 : decode cL_bound 271 = .ok (.lstore 13, 2) := by decide +kernel
theorem dL_bound_273 : decode cL_bound 273 = .ok (.aload_n 0, 1) := by decide +kernel
theorem dL_bound_274 : decode cL_bound 274 = .ok (.iconst 0, 1) := by decide +kernel
theorem dL_bound_275 : decode cL_bound 275 = .ok (.invokevirtual 22, 3) := by decide +kernel
theorem dL_bound_278 : decode cL_bound 278 = .ok (.ifCond .ne 71, 3) := by decide +kernel
theorem dL_bound_281 : decode cL_bound 281 = .ok (.aload_n 0, 1) := by decide +kernel
theorem dL_bound_282 : decode cL_bound 282 = .ok (.iconst 1, 1) := by decide +kernel
theorem dL_bound_283 : decode cL_bound 283 = .ok (.invokevirtual 22, 3) := by decide +kernel
theorem dL_bound_286 : decode cL_bound 286 = .ok (.iconst (-1), 1) := by decide +kernel
theorem dL_bound_287 : decode cL_bound 287 = .ok (.if_icmp .ne 62, 3) := by decide +kernel
theorem dL_bound_290 : decode cL_bound 290 = .ok (.aload_n 0, 1) := by decide +kernel
theorem dL_bound_291 : decode cL_bound 291 = .ok (.iconst 0, 1) := by decide +kernel
theorem dL_bound_292 : decode cL_bound 292 = .ok (.invokevirtual 28, 3) := by decide +kernel
theorem dL_bound_295 : decode cL_bound 295 = .ok (.lload 8, 2) := by decide +kernel
theorem dL_bound_297 : decode cL_bound 297 = .ok (.lload 13, 2) := by decide +kernel
theorem dL_bound_299 : decode cL_bound 299 = .ok (.ldiv, 1) := by decide +kernel
theorem dL_bound_300 : decode cL_bound 300 = .ok (.lcmp, 1) := by decide +kernel
theorem dL_bound_301 : decode cL_bound 301 = .ok (.ifCond .ne 48, 3) := by decide +kernel
theorem dL_bound_304 : decode cL_bound 304 = .ok (.aload_n 0, 1) := by decide +kernel
theorem dL_bound_305 : decode cL_bound 305 = .ok (.iconst 1, 1) := by decide +kernel
theorem dL_bound_306 : decode cL_bound 306 = .ok (.invokevirtual 28, 3) := by decide +kernel
theorem dL_bound_309 : decode cL_bound 309 = .ok (.lload 10, 2) := by decide +kernel
theorem dL_bound_311 : decode cL_bound 311 = .ok (.lload 13, 2) := by decide +kernel
theorem dL_bound_313 : decode cL_bound 313 = .ok (.ldiv, 1) := by decide +kernel
theorem dL_bound_314 : decode cL_bound 314 = .ok (.lcmp, 1) := by decide +kernel
theorem dL_bound_315 : decode cL_bound 315 = .ok (.ifCond .ne 34, 3) := by decide +kernel
theorem dL_bound_318 : decode cL_bound 318 = .ok (.aload_n 0, 1) := by decide +kernel
theorem dL_bound_319 : decode cL_bound 319 = .ok (.iconst 2, 1) := by decide +kernel
theorem dL_bound_320 : decode cL_bound 320 = .ok (.invokevirtual 28, 3) := by decide +kernel
theorem dL_bound_323 : decode cL_bound 323 = .ok (.iload 12, 2) := by decide +kernel
theorem dL_bound_325 : decode cL_bound 325 = .ok (.i2l, 1) := by decide +kernel
theorem dL_bound_326 : decode cL_bound 326 = .ok (.lcmp, 1) := by decide +kernel
theorem dL_bound_327 : decode cL_bound 327 = .ok (.ifCond .ne 22, 3) := by decide +kernel
theorem dL_bound_330 : decode cL_bound 330 = .ok (.aload_n 0, 1) := by decide +kernel
theorem dL_bound_331 : decode cL_bound 331 = .ok (.iconst 3, 1) := by decide +kernel
theorem dL_bound_332 : decode cL_bound 332 = .ok (.invokevirtual 42, 3) := by decide +kernel
theorem dL_bound_335 : decode cL_bound 335 = .ok (.i2l, 1) := by decide +kernel
theorem dL_bound_336 : decode cL_bound 336 = .ok (.lload 10, 2) := by decide +kernel
theorem dL_bound_338 : decode cL_bound 338 = .ok (.lmul, 1) := by decide +kernel
theorem dL_bound_339 : decode cL_bound 339 = .ok (.lload 8, 2) := by decide +kernel
theorem dL_bound_341 : decode cL_bound 341 = .ok (.lcmp, 1) := by decide +kernel
theorem dL_bound_342 : decode cL_bound 342 = .ok (.ifCond .gt 7, 3) := by decide +kernel
theorem dL_bound_345 : decode cL_bound 345 = .ok (.iconst 1, 1) := by decide +kernel
theorem dL_bound_346 : decode cL_bound 346 = .ok (.goto 4, 3) := by decide +kernel
theorem dL_bound_349 : decode cL_bound 349 = .ok (.iconst 0, 1) := by decide +kernel
theorem dL_bound_350 : decode cL_bound 350 = .ok (.ireturn, 1) := by decide +kernel
theorem dL_clique_0 : decode cL_clique 0 = .ok (.iconst 0, 1) := by decide +kernel
theorem dL_clique_1 : decode cL_clique 1 = .ok (.istore_n 3, 1) := by decide +kernel
theorem dL_clique_2 : decode cL_clique 2 = .ok (.iload_n 3, 1) := by decide +kernel
theorem dL_clique_3 : decode cL_clique 3 = .ok (.aload_n 0, 1) := by decide +kernel
theorem dL_clique_4 : decode cL_clique 4 = .ok (.iconst 0, 1) := by decide +kernel
theorem dL_clique_5 : decode cL_clique 5 = .ok (.iaload, 1) := by decide +kernel
theorem dL_clique_6 : decode cL_clique 6 = .ok (.if_icmp .ge 56, 3) := by decide +kernel
theorem dL_clique_9 : decode cL_clique 9 = .ok (.iconst 0, 1) := by decide +kernel
theorem dL_clique_10 : decode cL_clique 10 = .ok (.istore 4, 2) := by decide +kernel
theorem dL_clique_12 : decode cL_clique 12 = .ok (.iload 4, 2) := by decide +kernel
theorem dL_clique_14 : decode cL_clique 14 = .ok (.iload_n 3, 1) := by decide +kernel
theorem dL_clique_15 : decode cL_clique 15 = .ok (.if_icmp .ge 41, 3) := by decide +kernel
theorem dL_clique_18 : decode cL_clique 18 = .ok (.iload_n 2, 1) := by decide +kernel
theorem dL_clique_19 : decode cL_clique 19 = .ok (.iload_n 3, 1) := by decide +kernel
theorem dL_clique_20 : decode cL_clique 20 = .ok (.ishr, 1) := by decide +kernel
theorem dL_clique_21 : decode cL_clique 21 = .ok (.iconst 1, 1) := by decide +kernel
theorem dL_clique_22 : decode cL_clique 22 = .ok (.iand, 1) := by decide +kernel
theorem dL_clique_23 : decode cL_clique 23 = .ok (.iconst 1, 1) := by decide +kernel
theorem dL_clique_24 : decode cL_clique 24 = .ok (.if_icmp .ne 26, 3) := by decide +kernel
theorem dL_clique_27 : decode cL_clique 27 = .ok (.iload_n 2, 1) := by decide +kernel
theorem dL_clique_28 : decode cL_clique 28 = .ok (.iload 4, 2) := by decide +kernel
theorem dL_clique_30 : decode cL_clique 30 = .ok (.ishr, 1) := by decide +kernel
theorem dL_clique_31 : decode cL_clique 31 = .ok (.iconst 1, 1) := by decide +kernel
theorem dL_clique_32 : decode cL_clique 32 = .ok (.iand, 1) := by decide +kernel
theorem dL_clique_33 : decode cL_clique 33 = .ok (.iconst 1, 1) := by decide +kernel
theorem dL_clique_34 : decode cL_clique 34 = .ok (.if_icmp .ne 16, 3) := by decide +kernel
theorem dL_clique_37 : decode cL_clique 37 = .ok (.aload_n 1, 1) := by decide +kernel
theorem dL_clique_38 : decode cL_clique 38 = .ok (.iconst 4, 1) := by decide +kernel
theorem dL_clique_39 : decode cL_clique 39 = .ok (.iload_n 3, 1) := by decide +kernel
theorem dL_clique_40 : decode cL_clique 40 = .ok (.imul, 1) := by decide +kernel
theorem dL_clique_41 : decode cL_clique 41 = .ok (.iload 4, 2) := by decide +kernel
theorem dL_clique_43 : decode cL_clique 43 = .ok (.iadd, 1) := by decide +kernel
theorem dL_clique_44 : decode cL_clique 44 = .ok (.iaload, 1) := by decide +kernel
theorem dL_clique_45 : decode cL_clique 45 = .ok (.ifCond .ne 5, 3) := by decide +kernel
theorem dL_clique_48 : decode cL_clique 48 = .ok (.iconst 0, 1) := by decide +kernel
theorem dL_clique_49 : decode cL_clique 49 = .ok (.ireturn, 1) := by decide +kernel
theorem dL_clique_50 : decode cL_clique 50 = .ok (.iinc 4 1, 3) := by decide +kernel
theorem dL_clique_53 : decode cL_clique 53 = .ok (.goto (-41), 3) := by decide +kernel
theorem dL_clique_56 : decode cL_clique 56 = .ok (.iinc 3 1, 3) := by decide +kernel
theorem dL_clique_59 : decode cL_clique 59 = .ok (.goto (-57), 3) := by decide +kernel
theorem dL_clique_62 : decode cL_clique 62 = .ok (.iconst 1, 1) := by decide +kernel
theorem dL_clique_63 : decode cL_clique 63 = .ok (.ireturn, 1) := by decide +kernel
theorem dL_cliques_0 : decode cL_cliques 0 = .ok (.iconst 0, 1) := by decide +kernel
theorem dL_cliques_1 : decode cL_cliques 1 = .ok (.istore 4, 2) := by decide +kernel
theorem dL_cliques_3 : decode cL_cliques 3 = .ok (.iconst 0, 1) := by decide +kernel
theorem dL_cliques_4 : decode cL_cliques 4 = .ok (.istore 5, 2) := by decide +kernel
theorem dL_cliques_6 : decode cL_cliques 6 = .ok (.iconst 0, 1) := by decide +kernel
theorem dL_cliques_7 : decode cL_cliques 7 = .ok (.istore 6, 2) := by decide +kernel
theorem dL_cliques_9 : decode cL_cliques 9 = .ok (.iconst 4, 1) := by decide +kernel
theorem dL_cliques_10 : decode cL_cliques 10 = .ok (.newarray .int, 2) := by decide +kernel
theorem dL_cliques_12 : decode cL_cliques 12 = .ok (.astore 7, 2) := by decide +kernel
theorem dL_cliques_14 : decode cL_cliques 14 = .ok (.iconst 0, 1) := by decide +kernel
theorem dL_cliques_15 : decode cL_cliques 15 = .ok (.istore 8, 2) := by decide +kernel
theorem dL_cliques_17 : decode cL_cliques 17 = .ok (.iload 8, 2) := by decide +kernel
theorem dL_cliques_19 : decode cL_cliques 19 = .ok (.iconst 1, 1) := by decide +kernel
theorem dL_cliques_20 : decode cL_cliques 20 = .ok (.aload_n 1, 1) := by decide +kernel
theorem dL_cliques_21 : decode cL_cliques 21 = .ok (.iconst 0, 1) := by decide +kernel
theorem dL_cliques_22 : decode cL_cliques 22 = .ok (.iaload, 1) := by decide +kernel
theorem dL_cliques_23 : decode cL_cliques 23 = .ok (.ishl, 1) := by decide +kernel
theorem dL_cliques_24 : decode cL_cliques 24 = .ok (.if_icmp .ge 136, 3) := by decide +kernel
theorem dL_cliques_27 : decode cL_cliques 27 = .ok (.aload_n 1, 1) := by decide +kernel
theorem dL_cliques_28 : decode cL_cliques 28 = .ok (.aload_n 3, 1) := by decide +kernel
theorem dL_cliques_29 : decode cL_cliques 29 = .ok (.iload 8, 2) := by decide +kernel
theorem dL_cliques_31 : decode cL_cliques 31 = .ok (.invokestatic 45, 3) := by decide +kernel
theorem dL_cliques_34 : decode cL_cliques 34 = .ok (.ifCond .eq 120, 3) := by decide +kernel
theorem dL_cliques_37 : decode cL_cliques 37 = .ok (.iconst 0, 1) := by decide +kernel
theorem dL_cliques_38 : decode cL_cliques 38 = .ok (.istore 9, 2) := by decide +kernel
theorem dL_cliques_40 : decode cL_cliques 40 = .ok (.iconst 0, 1) := by decide +kernel
theorem dL_cliques_41 : decode cL_cliques 41 = .ok (.istore 10, 2) := by decide +kernel
theorem dL_cliques_43 : decode cL_cliques 43 = .ok (.iconst 0, 1) := by decide +kernel
theorem dL_cliques_44 : decode cL_cliques 44 = .ok (.istore 11, 2) := by decide +kernel
theorem dL_cliques_46 : decode cL_cliques 46 = .ok (.iload 11, 2) := by decide +kernel
theorem dL_cliques_48 : decode cL_cliques 48 = .ok (.aload_n 1, 1) := by decide +kernel
theorem dL_cliques_49 : decode cL_cliques 49 = .ok (.iconst 0, 1) := by decide +kernel
theorem dL_cliques_50 : decode cL_cliques 50 = .ok (.iaload, 1) := by decide +kernel
theorem dL_cliques_51 : decode cL_cliques 51 = .ok (.if_icmp .ge 32, 3) := by decide +kernel
theorem dL_cliques_54 : decode cL_cliques 54 = .ok (.iload 8, 2) := by decide +kernel
theorem dL_cliques_56 : decode cL_cliques 56 = .ok (.iload 11, 2) := by decide +kernel
theorem dL_cliques_58 : decode cL_cliques 58 = .ok (.ishr, 1) := by decide +kernel
theorem dL_cliques_59 : decode cL_cliques 59 = .ok (.iconst 1, 1) := by decide +kernel
theorem dL_cliques_60 : decode cL_cliques 60 = .ok (.iand, 1) := by decide +kernel
theorem dL_cliques_61 : decode cL_cliques 61 = .ok (.iconst 1, 1) := by decide +kernel
theorem dL_cliques_62 : decode cL_cliques 62 = .ok (.if_icmp .ne 15, 3) := by decide +kernel
theorem dL_cliques_65 : decode cL_cliques 65 = .ok (.iload 9, 2) := by decide +kernel
theorem dL_cliques_67 : decode cL_cliques 67 = .ok (.aload_n 2, 1) := by decide +kernel
theorem dL_cliques_68 : decode cL_cliques 68 = .ok (.iload 11, 2) := by decide +kernel
theorem dL_cliques_70 : decode cL_cliques 70 = .ok (.iaload, 1) := by decide +kernel
theorem dL_cliques_71 : decode cL_cliques 71 = .ok (.iadd, 1) := by decide +kernel
theorem dL_cliques_72 : decode cL_cliques 72 = .ok (.istore 9, 2) := by decide +kernel
theorem dL_cliques_74 : decode cL_cliques 74 = .ok (.iinc 10 1, 3) := by decide +kernel
theorem dL_cliques_77 : decode cL_cliques 77 = .ok (.iinc 11 1, 3) := by decide +kernel
theorem dL_cliques_80 : decode cL_cliques 80 = .ok (.goto (-34), 3) := by decide +kernel
theorem dL_cliques_83 : decode cL_cliques 83 = .ok (.iload 9, 2) := by decide +kernel
theorem dL_cliques_85 : decode cL_cliques 85 = .ok (.iload 5, 2) := by decide +kernel
theorem dL_cliques_87 : decode cL_cliques 87 = .ok (.if_icmp .le 11, 3) := by decide +kernel
theorem dL_cliques_90 : decode cL_cliques 90 = .ok (.iload 9, 2) := by decide +kernel
theorem dL_cliques_92 : decode cL_cliques 92 = .ok (.istore 5, 2) := by decide +kernel
theorem dL_cliques_94 : decode cL_cliques 94 = .ok (.iload 8, 2) := by decide +kernel
theorem dL_cliques_96 : decode cL_cliques 96 = .ok (.istore 4, 2) := by decide +kernel
theorem dL_cliques_98 : decode cL_cliques 98 = .ok (.iload 10, 2) := by decide +kernel
theorem dL_cliques_100 : decode cL_cliques 100 = .ok (.iload 6, 2) := by decide +kernel
theorem dL_cliques_102 : decode cL_cliques 102 = .ok (.if_icmp .le 7, 3) := by decide +kernel
theorem dL_cliques_105 : decode cL_cliques 105 = .ok (.iload 10, 2) := by decide +kernel
theorem dL_cliques_107 : decode cL_cliques 107 = .ok (.istore 6, 2) := by decide +kernel
theorem dL_cliques_109 : decode cL_cliques 109 = .ok (.iconst 0, 1) := by decide +kernel
theorem dL_cliques_110 : decode cL_cliques 110 = .ok (.istore 11, 2) := by decide +kernel
theorem dL_cliques_112 : decode cL_cliques 112 = .ok (.iload 11, 2) := by decide +kernel
theorem dL_cliques_114 : decode cL_cliques 114 = .ok (.aload_n 1, 1) := by decide +kernel
theorem dL_cliques_115 : decode cL_cliques 115 = .ok (.iconst 0, 1) := by decide +kernel
theorem dL_cliques_116 : decode cL_cliques 116 = .ok (.iaload, 1) := by decide +kernel
theorem dL_cliques_117 : decode cL_cliques 117 = .ok (.if_icmp .ge 37, 3) := by decide +kernel
theorem dL_cliques_120 : decode cL_cliques 120 = .ok (.iload 8, 2) := by decide +kernel
theorem dL_cliques_122 : decode cL_cliques 122 = .ok (.iload 11, 2) := by decide +kernel
theorem dL_cliques_124 : decode cL_cliques 124 = .ok (.ishr, 1) := by decide +kernel
theorem dL_cliques_125 : decode cL_cliques 125 = .ok (.iconst 1, 1) := by decide +kernel
theorem dL_cliques_126 : decode cL_cliques 126 = .ok (.iand, 1) := by decide +kernel
theorem dL_cliques_127 : decode cL_cliques 127 = .ok (.iconst 1, 1) := by decide +kernel
theorem dL_cliques_128 : decode cL_cliques 128 = .ok (.if_icmp .ne 20, 3) := by decide +kernel
theorem dL_cliques_131 : decode cL_cliques 131 = .ok (.iload 9, 2) := by decide +kernel
theorem dL_cliques_133 : decode cL_cliques 133 = .ok (.aload 7, 2) := by decide +kernel
theorem dL_cliques_135 : decode cL_cliques 135 = .ok (.iload 11, 2) := by decide +kernel
theorem dL_cliques_137 : decode cL_cliques 137 = .ok (.iaload, 1) := by decide +kernel
theorem dL_cliques_138 : decode cL_cliques 138 = .ok (.if_icmp .le 10, 3) := by decide +kernel
theorem dL_cliques_141 : decode cL_cliques 141 = .ok (.aload 7, 2) := by decide +kernel
theorem dL_cliques_143 : decode cL_cliques 143 = .ok (.iload 11, 2) := by decide +kernel
theorem dL_cliques_145 : decode cL_cliques 145 = .ok (.iload 9, 2) := by decide +kernel
theorem dL_cliques_147 : decode cL_cliques 147 = .ok (.iastore, 1) := by decide +kernel
theorem dL_cliques_148 : decode cL_cliques 148 = .ok (.iinc 11 1, 3) := by decide +kernel
theorem dL_cliques_151 : decode cL_cliques 151 = .ok (.goto (-39), 3) := by decide +kernel
theorem dL_cliques_154 : decode cL_cliques 154 = .ok (.iinc 8 1, 3) := by decide +kernel
theorem dL_cliques_157 : decode cL_cliques 157 = .ok (.goto (-140), 3) := by decide +kernel
theorem dL_cliques_160 : decode cL_cliques 160 = .ok (.iconst 0, 1) := by decide +kernel
theorem dL_cliques_161 : decode cL_cliques 161 = .ok (.istore 8, 2) := by decide +kernel
theorem dL_cliques_163 : decode cL_cliques 163 = .ok (.iload 8, 2) := by decide +kernel
theorem dL_cliques_165 : decode cL_cliques 165 = .ok (.aload_n 1, 1) := by decide +kernel
theorem dL_cliques_166 : decode cL_cliques 166 = .ok (.iconst 0, 1) := by decide +kernel
theorem dL_cliques_167 : decode cL_cliques 167 = .ok (.iaload, 1) := by decide +kernel
theorem dL_cliques_168 : decode cL_cliques 168 = .ok (.if_icmp .ge 26, 3) := by decide +kernel
theorem dL_cliques_171 : decode cL_cliques 171 = .ok (.aload_n 0, 1) := by decide +kernel
theorem dL_cliques_172 : decode cL_cliques 172 = .ok (.iload 8, 2) := by decide +kernel
theorem dL_cliques_174 : decode cL_cliques 174 = .ok (.iconst 5, 1) := by decide +kernel
theorem dL_cliques_175 : decode cL_cliques 175 = .ok (.invokevirtual 49, 3) := by decide +kernel
theorem dL_cliques_178 : decode cL_cliques 178 = .ok (.aload 7, 2) := by decide +kernel
theorem dL_cliques_180 : decode cL_cliques 180 = .ok (.iload 8, 2) := by decide +kernel
theorem dL_cliques_182 : decode cL_cliques 182 = .ok (.iaload, 1) := by decide +kernel
theorem dL_cliques_183 : decode cL_cliques 183 = .ok (.if_icmp .eq 5, 3) := by decide +kernel
theorem dL_cliques_186 : decode cL_cliques 186 = .ok (.iconst 0, 1) := by decide +kernel
theorem dL_cliques_187 : decode cL_cliques 187 = .ok (.ireturn, 1) := by decide +kernel
theorem dL_cliques_188 : decode cL_cliques 188 = .ok (.iinc 8 1, 3) := by decide +kernel
theorem dL_cliques_191 : decode cL_cliques 191 = .ok (.goto (-28), 3) := by decide +kernel
theorem dL_cliques_194 : decode cL_cliques 194 = .ok (.aload_n 0, 1) := by decide +kernel
theorem dL_cliques_195 : decode cL_cliques 195 = .ok (.iconst 3, 1) := by decide +kernel
theorem dL_cliques_196 : decode cL_cliques 196 = .ok (.invokevirtual 42, 3) := by decide +kernel
theorem dL_cliques_199 : decode cL_cliques 199 = .ok (.iload 5, 2) := by decide +kernel
theorem dL_cliques_201 : decode cL_cliques 201 = .ok (.if_icmp .ne 27, 3) := by decide +kernel
theorem dL_cliques_204 : decode cL_cliques 204 = .ok (.aload_n 0, 1) := by decide +kernel
theorem dL_cliques_205 : decode cL_cliques 205 = .ok (.iconst 4, 1) := by decide +kernel
theorem dL_cliques_206 : decode cL_cliques 206 = .ok (.invokevirtual 42, 3) := by decide +kernel
theorem dL_cliques_209 : decode cL_cliques 209 = .ok (.iload 4, 2) := by decide +kernel
theorem dL_cliques_211 : decode cL_cliques 211 = .ok (.if_icmp .ne 17, 3) := by decide +kernel
theorem dL_cliques_214 : decode cL_cliques 214 = .ok (.aload_n 0, 1) := by decide +kernel
theorem dL_cliques_215 : decode cL_cliques 215 = .ok (.iconst 5, 1) := by decide +kernel
theorem dL_cliques_216 : decode cL_cliques 216 = .ok (.invokevirtual 42, 3) := by decide +kernel
theorem dL_cliques_219 : decode cL_cliques 219 = .ok (.iload 6, 2) := by decide +kernel
theorem dL_cliques_221 : decode cL_cliques 221 = .ok (.if_icmp .ne 7, 3) := by decide +kernel
theorem dL_cliques_224 : decode cL_cliques 224 = .ok (.iconst 1, 1) := by decide +kernel
theorem dL_cliques_225 : decode cL_cliques 225 = .ok (.goto 4, 3) := by decide +kernel
theorem dL_cliques_228 : decode cL_cliques 228 = .ok (.iconst 0, 1) := by decide +kernel
theorem dL_cliques_229 : decode cL_cliques 229 = .ok (.ireturn, 1) := by decide +kernel
theorem dL_colorAt_0 : decode cL_colorAt 0 = .ok (.iload_n 0, 1) := by decide +kernel
theorem dL_colorAt_1 : decode cL_colorAt 1 = .ok (.bipush 6, 2) := by decide +kernel
theorem dL_colorAt_3 : decode cL_colorAt 3 = .ok (.iconst 2, 1) := by decide +kernel
theorem dL_colorAt_4 : decode cL_colorAt 4 = .ok (.iload_n 1, 1) := by decide +kernel
theorem dL_colorAt_5 : decode cL_colorAt 5 = .ok (.imul, 1) := by decide +kernel
theorem dL_colorAt_6 : decode cL_colorAt 6 = .ok (.isub, 1) := by decide +kernel
theorem dL_colorAt_7 : decode cL_colorAt 7 = .ok (.ishr, 1) := by decide +kernel
theorem dL_colorAt_8 : decode cL_colorAt 8 = .ok (.iconst 3, 1) := by decide +kernel
theorem dL_colorAt_9 : decode cL_colorAt 9 = .ok (.iand, 1) := by decide +kernel
theorem dL_colorAt_10 : decode cL_colorAt 10 = .ok (.ireturn, 1) := by decide +kernel
theorem dL_colors_0 : decode cL_colors 0 = .ok (.iconst 5, 1) := by decide +kernel
theorem dL_colors_1 : decode cL_colors 1 = .ok (.istore_n 3, 1) := by decide +kernel
theorem dL_colors_2 : decode cL_colors 2 = .ok (.iconst (-1), 1) := by decide +kernel
theorem dL_colors_3 : decode cL_colors 3 = .ok (.istore 4, 2) := by decide +kernel
theorem dL_colors_5 : decode cL_colors 5 = .ok (.iconst 0, 1) := by decide +kernel
theorem dL_colors_6 : decode cL_colors 6 = .ok (.istore 5, 2) := by decide +kernel
theorem dL_colors_8 : decode cL_colors 8 = .ok (.iload 5, 2) := by decide +kernel
theorem dL_colors_10 : decode cL_colors 10 = .ok (.sipush 256, 3) := by decide +kernel
theorem dL_colors_13 : decode cL_colors 13 = .ok (.if_icmp .ge 143, 3) := by decide +kernel
theorem dL_colors_16 : decode cL_colors 16 = .ok (.iconst 0, 1) := by decide +kernel
theorem dL_colors_17 : decode cL_colors 17 = .ok (.istore 6, 2) := by decide +kernel
theorem dL_colors_19 : decode cL_colors 19 = .ok (.iconst 1, 1) := by decide +kernel
theorem dL_colors_20 : decode cL_colors 20 = .ok (.istore 7, 2) := by decide +kernel
theorem dL_colors_22 : decode cL_colors 22 = .ok (.iconst 0, 1) := by decide +kernel
theorem dL_colors_23 : decode cL_colors 23 = .ok (.istore 8, 2) := by decide +kernel
theorem dL_colors_25 : decode cL_colors 25 = .ok (.iload 8, 2) := by decide +kernel
theorem dL_colors_27 : decode cL_colors 27 = .ok (.aload_n 1, 1) := by decide +kernel
theorem dL_colors_28 : decode cL_colors 28 = .ok (.iconst 0, 1) := by decide +kernel
theorem dL_colors_29 : decode cL_colors 29 = .ok (.iaload, 1) := by decide +kernel
theorem dL_colors_30 : decode cL_colors 30 = .ok (.if_icmp .ge 72, 3) := by decide +kernel
theorem dL_colors_33 : decode cL_colors 33 = .ok (.iload 6, 2) := by decide +kernel
theorem dL_colors_35 : decode cL_colors 35 = .ok (.iconst 1, 1) := by decide +kernel
theorem dL_colors_36 : decode cL_colors 36 = .ok (.iload 5, 2) := by decide +kernel
theorem dL_colors_38 : decode cL_colors 38 = .ok (.iload 8, 2) := by decide +kernel
theorem dL_colors_40 : decode cL_colors 40 = .ok (.invokestatic 53, 3) := by decide +kernel
theorem dL_colors_43 : decode cL_colors 43 = .ok (.ishl, 1) := by decide +kernel
theorem dL_colors_44 : decode cL_colors 44 = .ok (.ior, 1) := by decide +kernel
theorem dL_colors_45 : decode cL_colors 45 = .ok (.istore 6, 2) := by decide +kernel
theorem dL_colors_47 : decode cL_colors 47 = .ok (.iconst 0, 1) := by decide +kernel
theorem dL_colors_48 : decode cL_colors 48 = .ok (.istore 9, 2) := by decide +kernel
theorem dL_colors_50 : decode cL_colors 50 = .ok (.iload 9, 2) := by decide +kernel
theorem dL_colors_52 : decode cL_colors 52 = .ok (.iload 8, 2) := by decide +kernel
theorem dL_colors_54 : decode cL_colors 54 = .ok (.if_icmp .ge 42, 3) := by decide +kernel
theorem dL_colors_57 : decode cL_colors 57 = .ok (.aload_n 2, 1) := by decide +kernel
theorem dL_colors_58 : decode cL_colors 58 = .ok (.iconst 4, 1) := by decide +kernel
theorem dL_colors_59 : decode cL_colors 59 = .ok (.iload 8, 2) := by decide +kernel
theorem dL_colors_61 : decode cL_colors 61 = .ok (.imul, 1) := by decide +kernel
theorem dL_colors_62 : decode cL_colors 62 = .ok (.iload 9, 2) := by decide +kernel
theorem dL_colors_64 : decode cL_colors 64 = .ok (.iadd, 1) := by decide +kernel
theorem dL_colors_65 : decode cL_colors 65 = .ok (.iaload, 1) := by decide +kernel
theorem dL_colors_66 : decode cL_colors 66 = .ok (.iconst 1, 1) := by decide +kernel
theorem dL_colors_67 : decode cL_colors 67 = .ok (.if_icmp .ne 23, 3) := by decide +kernel
theorem dL_colors_70 : decode cL_colors 70 = .ok (.iload 5, 2) := by decide +kernel
theorem dL_colors_72 : decode cL_colors 72 = .ok (.iload 8, 2) := by decide +kernel
theorem dL_colors_74 : decode cL_colors 74 = .ok (.invokestatic 53, 3) := by decide +kernel
theorem dL_colors_77 : decode cL_colors 77 = .ok (.iload 5, 2) := by decide +kernel
theorem dL_colors_79 : decode cL_colors 79 = .ok (.iload 9, 2) := by decide +kernel
theorem dL_colors_81 : decode cL_colors 81 = .ok (.invokestatic 53, 3) := by decide +kernel
theorem dL_colors_84 : decode cL_colors 84 = .ok (.if_icmp .ne 6, 3) := by decide +kernel
theorem dL_colors_87 : decode cL_colors 87 = .ok (.iconst 0, 1) := by decide +kernel
theorem dL_colors_88 : decode cL_colors 88 = .ok (.istore 7, 2) := by decide +kernel
theorem dL_colors_90 : decode cL_colors 90 = .ok (.iinc 9 1, 3) := by decide +kernel
theorem dL_colors_93 : decode cL_colors 93 = .ok (.goto (-43), 3) := by decide +kernel
theorem dL_colors_96 : decode cL_colors 96 = .ok (.iinc 8 1, 3) := by decide +kernel
theorem dL_colors_99 : decode cL_colors 99 = .ok (.goto (-74), 3) := by decide +kernel
theorem dL_colors_102 : decode cL_colors 102 = .ok (.iconst 0, 1) := by decide +kernel
theorem dL_colors_103 : decode cL_colors 103 = .ok (.istore 8, 2) := by decide +kernel
theorem dL_colors_105 : decode cL_colors 105 = .ok (.iconst 0, 1) := by decide +kernel
theorem dL_colors_106 : decode cL_colors 106 = .ok (.istore 9, 2) := by decide +kernel
theorem dL_colors_108 : decode cL_colors 108 = .ok (.iload 9, 2) := by decide +kernel
theorem dL_colors_110 : decode cL_colors 110 = .ok (.iconst 4, 1) := by decide +kernel
theorem dL_colors_111 : decode cL_colors 111 = .ok (.if_icmp .ge 21, 3) := by decide +kernel
theorem dL_colors_114 : decode cL_colors 114 = .ok (.iload 8, 2) := by decide +kernel
theorem dL_colors_116 : decode cL_colors 116 = .ok (.iload 6, 2) := by decide +kernel
theorem dL_colors_118 : decode cL_colors 118 = .ok (.iload 9, 2) := by decide +kernel
theorem dL_colors_120 : decode cL_colors 120 = .ok (.ishr, 1) := by decide +kernel
theorem dL_colors_121 : decode cL_colors 121 = .ok (.iconst 1, 1) := by decide +kernel
theorem dL_colors_122 : decode cL_colors 122 = .ok (.iand, 1) := by decide +kernel
theorem dL_colors_123 : decode cL_colors 123 = .ok (.iadd, 1) := by decide +kernel
theorem dL_colors_124 : decode cL_colors 124 = .ok (.istore 8, 2) := by decide +kernel
theorem dL_colors_126 : decode cL_colors 126 = .ok (.iinc 9 1, 3) := by decide +kernel
theorem dL_colors_129 : decode cL_colors 129 = .ok (.goto (-21), 3) := by decide +kernel
theorem dL_colors_132 : decode cL_colors 132 = .ok (.iload 7, 2) := by decide +kernel
theorem dL_colors_134 : decode cL_colors 134 = .ok (.ifCond .eq 16, 3) := by decide +kernel
theorem dL_colors_137 : decode cL_colors 137 = .ok (.iload 8, 2) := by decide +kernel
theorem dL_colors_139 : decode cL_colors 139 = .ok (.iload_n 3, 1) := by decide +kernel
theorem dL_colors_140 : decode cL_colors 140 = .ok (.if_icmp .ge 10, 3) := by decide +kernel
theorem dL_colors_143 : decode cL_colors 143 = .ok (.iload 8, 2) := by decide +kernel
theorem dL_colors_145 : decode cL_colors 145 = .ok (.istore_n 3, 1) := by decide +kernel
theorem dL_colors_146 : decode cL_colors 146 = .ok (.iload 5, 2) := by decide +kernel
theorem dL_colors_148 : decode cL_colors 148 = .ok (.istore 4, 2) := by decide +kernel
theorem dL_colors_150 : decode cL_colors 150 = .ok (.iinc 5 1, 3) := by decide +kernel
theorem dL_colors_153 : decode cL_colors 153 = .ok (.goto (-145), 3) := by decide +kernel
theorem dL_colors_156 : decode cL_colors 156 = .ok (.iconst 0, 1) := by decide +kernel
theorem dL_colors_157 : decode cL_colors 157 = .ok (.istore 5, 2) := by decide +kernel
theorem dL_colors_159 : decode cL_colors 159 = .ok (.iload 5, 2) := by decide +kernel
theorem dL_colors_161 : decode cL_colors 161 = .ok (.aload_n 1, 1) := by decide +kernel
theorem dL_colors_162 : decode cL_colors 162 = .ok (.iconst 0, 1) := by decide +kernel
theorem dL_colors_163 : decode cL_colors 163 = .ok (.iaload, 1) := by decide +kernel
theorem dL_colors_164 : decode cL_colors 164 = .ok (.if_icmp .ge 28, 3) := by decide +kernel
theorem dL_colors_167 : decode cL_colors 167 = .ok (.aload_n 0, 1) := by decide +kernel
theorem dL_colors_168 : decode cL_colors 168 = .ok (.iload 5, 2) := by decide +kernel
theorem dL_colors_170 : decode cL_colors 170 = .ok (.iconst 4, 1) := by decide +kernel
theorem dL_colors_171 : decode cL_colors 171 = .ok (.invokevirtual 49, 3) := by decide +kernel
theorem dL_colors_174 : decode cL_colors 174 = .ok (.iload 4, 2) := by decide +kernel
theorem dL_colors_176 : decode cL_colors 176 = .ok (.iload 5, 2) := by decide +kernel
theorem dL_colors_178 : decode cL_colors 178 = .ok (.invokestatic 53, 3) := by decide +kernel
theorem dL_colors_181 : decode cL_colors 181 = .ok (.if_icmp .eq 5, 3) := by decide +kernel
theorem dL_colors_184 : decode cL_colors 184 = .ok (.iconst 0, 1) := by decide +kernel
theorem dL_colors_185 : decode cL_colors 185 = .ok (.ireturn, 1) := by decide +kernel
theorem dL_colors_186 : decode cL_colors 186 = .ok (.iinc 5 1, 3) := by decide +kernel
theorem dL_colors_189 : decode cL_colors 189 = .ok (.goto (-30), 3) := by decide +kernel
theorem dL_colors_192 : decode cL_colors 192 = .ok (.aload_n 0, 1) := by decide +kernel
theorem dL_colors_193 : decode cL_colors 193 = .ok (.bipush 6, 2) := by decide +kernel
theorem dL_colors_195 : decode cL_colors 195 = .ok (.invokevirtual 42, 3) := by decide +kernel
theorem dL_colors_198 : decode cL_colors 198 = .ok (.iload_n 3, 1) := by decide +kernel
theorem dL_colors_199 : decode cL_colors 199 = .ok (.if_icmp .ne 7, 3) := by decide +kernel
theorem dL_colors_202 : decode cL_colors 202 = .ok (.iconst 1, 1) := by decide +kernel
theorem dL_colors_203 : decode cL_colors 203 = .ok (.goto 4, 3) := by decide +kernel
theorem dL_colors_206 : decode cL_colors 206 = .ok (.iconst 0, 1) := by decide +kernel
theorem dL_colors_207 : decode cL_colors 207 = .ok (.ireturn, 1) := by decide +kernel
theorem dL_act_0 : decode cL_act 0 = .ok (.iload_n 1, 1) := by decide +kernel
theorem dL_act_1 : decode cL_act 1 = .ok (.bipush 20, 2) := by decide +kernel
theorem dL_act_3 : decode cL_act 3 = .ok (.ishr, 1) := by decide +kernel
theorem dL_act_4 : decode cL_act 4 = .ok (.bipush 16, 2) := by decide +kernel
theorem dL_act_6 : decode cL_act 6 = .ok (.invokestatic 56, 3) := by decide +kernel
theorem dL_act_9 : decode cL_act 9 = .ok (.istore 8, 2) := by decide +kernel
theorem dL_act_11 : decode cL_act 11 = .ok (.iload_n 2, 1) := by decide +kernel
theorem dL_act_12 : decode cL_act 12 = .ok (.aload_n 3, 1) := by decide +kernel
theorem dL_act_13 : decode cL_act 13 = .ok (.iconst 0, 1) := by decide +kernel
theorem dL_act_14 : decode cL_act 14 = .ok (.iaload, 1) := by decide +kernel
theorem dL_act_15 : decode cL_act 15 = .ok (.invokestatic 56, 3) := by decide +kernel
theorem dL_act_18 : decode cL_act 18 = .ok (.istore 9, 2) := by decide +kernel
theorem dL_act_20 : decode cL_act 20 = .ok (.iload_n 2, 1) := by decide +kernel
theorem dL_act_21 : decode cL_act 21 = .ok (.iconst 2, 1) := by decide +kernel
theorem dL_act_22 : decode cL_act 22 = .ok (.ishr, 1) := by decide +kernel
theorem dL_act_23 : decode cL_act 23 = .ok (.aload_n 3, 1) := by decide +kernel
theorem dL_act_24 : decode cL_act 24 = .ok (.iconst 0, 1) := by decide +kernel
theorem dL_act_25 : decode cL_act 25 = .ok (.iaload, 1) := by decide +kernel
theorem dL_act_26 : decode cL_act 26 = .ok (.invokestatic 56, 3) := by decide +kernel
theorem dL_act_29 : decode cL_act 29 = .ok (.istore 10, 2) := by decide +kernel
theorem dL_act_31 : decode cL_act 31 = .ok (.aload_n 3, 1) := by decide +kernel
theorem dL_act_32 : decode cL_act 32 = .ok (.iconst 2, 1) := by decide +kernel
theorem dL_act_33 : decode cL_act 33 = .ok (.iaload, 1) := by decide +kernel
theorem dL_act_34 : decode cL_act 34 = .ok (.bipush 6, 2) := by decide +kernel
theorem dL_act_36 : decode cL_act 36 = .ok (.if_icmp .ge 42, 3) := by decide +kernel
theorem dL_act_39 : decode cL_act 39 = .ok (.iload 8, 2) := by decide +kernel
theorem dL_act_41 : decode cL_act 41 = .ok (.iconst 1, 1) := by decide +kernel
theorem dL_act_42 : decode cL_act 42 = .ok (.if_icmp .ne 10, 3) := by decide +kernel
theorem dL_act_45 : decode cL_act 45 = .ok (.aload_n 3, 1) := by decide +kernel
theorem dL_act_46 : decode cL_act 46 = .ok (.iconst 0, 1) := by decide +kernel
theorem dL_act_47 : decode cL_act 47 = .ok (.iaload, 1) := by decide +kernel
theorem dL_act_48 : decode cL_act 48 = .ok (.iconst 1, 1) := by decide +kernel
theorem dL_act_49 : decode cL_act 49 = .ok (.if_icmp .le 29, 3) := by decide +kernel
theorem dL_act_52 : decode cL_act 52 = .ok (.iload 8, 2) := by decide +kernel
theorem dL_act_54 : decode cL_act 54 = .ok (.iconst 2, 1) := by decide +kernel
theorem dL_act_55 : decode cL_act 55 = .ok (.if_icmp .lt 16, 3) := by decide +kernel
theorem dL_act_58 : decode cL_act 58 = .ok (.iload 8, 2) := by decide +kernel
theorem dL_act_60 : decode cL_act 60 = .ok (.iconst 4, 1) := by decide +kernel
theorem dL_act_61 : decode cL_act 61 = .ok (.if_icmp .gt 10, 3) := by decide +kernel
theorem dL_act_64 : decode cL_act 64 = .ok (.iload 9, 2) := by decide +kernel
theorem dL_act_66 : decode cL_act 66 = .ok (.iload 10, 2) := by decide +kernel
theorem dL_act_68 : decode cL_act 68 = .ok (.if_icmp .eq 10, 3) := by decide +kernel
theorem dL_act_71 : decode cL_act 71 = .ok (.aload_n 3, 1) := by decide +kernel
theorem dL_act_72 : decode cL_act 72 = .ok (.iconst 2, 1) := by decide +kernel
theorem dL_act_73 : decode cL_act 73 = .ok (.dup2, 1) := by decide +kernel
theorem dL_act_74 : decode cL_act 74 = .ok (.iaload, 1) := by decide +kernel
theorem dL_act_75 : decode cL_act 75 = .ok (.iconst 1, 1) := by decide +kernel
theorem dL_act_76 : decode cL_act 76 = .ok (.iadd, 1) := by decide +kernel
theorem dL_act_77 : decode cL_act 77 = .ok (.iastore, 1) := by decide +kernel
theorem dL_act_78 : decode cL_act 78 = .ok (.iload 8, 2) := by decide +kernel
theorem dL_act_80 : decode cL_act 80 = .ok (.ifCond .ne 106, 3) := by decide +kernel
theorem dL_act_83 : decode cL_act 83 = .ok (.aload_n 3, 1) := by decide +kernel
theorem dL_act_84 : decode cL_act 84 = .ok (.iconst 0, 1) := by decide +kernel
theorem dL_act_85 : decode cL_act 85 = .ok (.iaload, 1) := by decide +kernel
theorem dL_act_86 : decode cL_act 86 = .ok (.istore 11, 2) := by decide +kernel
theorem dL_act_88 : decode cL_act 88 = .ok (.aload_n 3, 1) := by decide +kernel
theorem dL_act_89 : decode cL_act 89 = .ok (.iconst 0, 1) := by decide +kernel
theorem dL_act_90 : decode cL_act 90 = .ok (.iconst 1, 1) := by decide +kernel
theorem dL_act_91 : decode cL_act 91 = .ok (.iload_n 2, 1) := by decide +kernel
theorem dL_act_92 : decode cL_act 92 = .ok (.iconst 4, 1) := by decide +kernel
theorem dL_act_93 : decode cL_act 93 = .ok (.invokestatic 56, 3) := by decide +kernel
theorem dL_act_96 : decode cL_act 96 = .ok (.iadd, 1) := by decide +kernel
theorem dL_act_97 : decode cL_act 97 = .ok (.iastore, 1) := by decide +kernel
theorem dL_act_98 : decode cL_act 98 = .ok (.aload_n 3, 1) := by decide +kernel
theorem dL_act_99 : decode cL_act 99 = .ok (.iconst 1, 1) := by decide +kernel
theorem dL_act_100 : decode cL_act 100 = .ok (.iconst 1, 1) := by decide +kernel
theorem dL_act_101 : decode cL_act 101 = .ok (.iload_n 2, 1) := by decide +kernel
theorem dL_act_102 : decode cL_act 102 = .ok (.iconst 2, 1) := by decide +kernel
theorem dL_act_103 : decode cL_act 103 = .ok (.ishr, 1) := by decide +kernel
theorem dL_act_104 : decode cL_act 104 = .ok (.iconst 4, 1) := by decide +kernel
theorem dL_act_105 : decode cL_act 105 = .ok (.invokestatic 56, 3) := by decide +kernel
theorem dL_act_108 : decode cL_act 108 = .ok (.iadd, 1) := by decide +kernel
theorem dL_act_109 : decode cL_act 109 = .ok (.iastore, 1) := by decide +kernel
theorem dL_act_110 : decode cL_act 110 = .ok (.iconst 0, 1) := by decide +kernel
theorem dL_act_111 : decode cL_act 111 = .ok (.istore 12, 2) := by decide +kernel
theorem dL_act_113 : decode cL_act 113 = .ok (.iload 12, 2) := by decide +kernel
theorem dL_act_115 : decode cL_act 115 = .ok (.bipush 16, 2) := by decide +kernel
theorem dL_act_117 : decode cL_act 117 = .ok (.if_icmp .ge 21, 3) := by decide +kernel
theorem dL_act_120 : decode cL_act 120 = .ok (.aload 5, 2) := by decide +kernel
theorem dL_act_122 : decode cL_act 122 = .ok (.iload 12, 2) := by decide +kernel
theorem dL_act_124 : decode cL_act 124 = .ok (.iconst 0, 1) := by decide +kernel
theorem dL_act_125 : decode cL_act 125 = .ok (.iastore, 1) := by decide +kernel
theorem dL_act_126 : decode cL_act 126 = .ok (.aload 6, 2) := by decide +kernel
theorem dL_act_128 : decode cL_act 128 = .ok (.iload 12, 2) := by decide +kernel
theorem dL_act_130 : decode cL_act 130 = .ok (.iconst 0, 1) := by decide +kernel
theorem dL_act_131 : decode cL_act 131 = .ok (.iastore, 1) := by decide +kernel
theorem dL_act_132 : decode cL_act 132 = .ok (.iinc 12 1, 3) := by decide +kernel
theorem dL_act_135 : decode cL_act 135 = .ok (.goto (-22), 3) := by decide +kernel
theorem dL_act_138 : decode cL_act 138 = .ok (.iconst 0, 1) := by decide +kernel
theorem dL_act_139 : decode cL_act 139 = .ok (.istore 12, 2) := by decide +kernel
theorem dL_act_141 : decode cL_act 141 = .ok (.iload 12, 2) := by decide +kernel
theorem dL_act_143 : decode cL_act 143 = .ok (.iconst 4, 1) := by decide +kernel
theorem dL_act_144 : decode cL_act 144 = .ok (.if_icmp .ge 21, 3) := by decide +kernel
theorem dL_act_147 : decode cL_act 147 = .ok (.aload 4, 2) := by decide +kernel
theorem dL_act_149 : decode cL_act 149 = .ok (.iload 12, 2) := by decide +kernel
theorem dL_act_151 : decode cL_act 151 = .ok (.iconst 1, 1) := by decide +kernel
theorem dL_act_152 : decode cL_act 152 = .ok (.iastore, 1) := by decide +kernel
theorem dL_act_153 : decode cL_act 153 = .ok (.aload 7, 2) := by decide +kernel
theorem dL_act_155 : decode cL_act 155 = .ok (.iload 12, 2) := by decide +kernel
theorem dL_act_157 : decode cL_act 157 = .ok (.iconst 0, 1) := by decide +kernel
theorem dL_act_158 : decode cL_act 158 = .ok (.iastore, 1) := by decide +kernel
theorem dL_act_159 : decode cL_act 159 = .ok (.iinc 12 1, 3) := by decide +kernel
theorem dL_act_162 : decode cL_act 162 = .ok (.goto (-21), 3) := by decide +kernel
theorem dL_act_165 : decode cL_act 165 = .ok (.aload_n 0, 1) := by decide +kernel
theorem dL_act_166 : decode cL_act 166 = .ok (.aload_n 3, 1) := by decide +kernel
theorem dL_act_167 : decode cL_act 167 = .ok (.iconst 0, 1) := by decide +kernel
theorem dL_act_168 : decode cL_act 168 = .ok (.iaload, 1) := by decide +kernel
theorem dL_act_169 : decode cL_act 169 = .ok (.aload_n 3, 1) := by decide +kernel
theorem dL_act_170 : decode cL_act 170 = .ok (.iconst 1, 1) := by decide +kernel
theorem dL_act_171 : decode cL_act 171 = .ok (.iaload, 1) := by decide +kernel
theorem dL_act_172 : decode cL_act 172 = .ok (.invokevirtual 59, 3) := by decide +kernel
theorem dL_act_175 : decode cL_act 175 = .ok (.iload 11, 2) := by decide +kernel
theorem dL_act_177 : decode cL_act 177 = .ok (.if_icmp .ne 7, 3) := by decide +kernel
theorem dL_act_180 : decode cL_act 180 = .ok (.iconst 1, 1) := by decide +kernel
theorem dL_act_181 : decode cL_act 181 = .ok (.goto 4, 3) := by decide +kernel
theorem dL_act_184 : decode cL_act 184 = .ok (.iconst 0, 1) := by decide +kernel
theorem dL_act_185 : decode cL_act 185 = .ok (.ireturn, 1) := by decide +kernel
theorem dL_act_186 : decode cL_act 186 = .ok (.iload 8, 2) := by decide +kernel
theorem dL_act_188 : decode cL_act 188 = .ok (.iconst 1, 1) := by decide +kernel
theorem dL_act_189 : decode cL_act 189 = .ok (.if_icmp .ne 181, 3) := by decide +kernel
theorem dL_act_192 : decode cL_act 192 = .ok (.aload_n 3, 1) := by decide +kernel
theorem dL_act_193 : decode cL_act 193 = .ok (.iconst 0, 1) := by decide +kernel
theorem dL_act_194 : decode cL_act 194 = .ok (.iaload, 1) := by decide +kernel
theorem dL_act_195 : decode cL_act 195 = .ok (.iconst 1, 1) := by decide +kernel
theorem dL_act_196 : decode cL_act 196 = .ok (.if_icmp .ne 5, 3) := by decide +kernel
theorem dL_act_199 : decode cL_act 199 = .ok (.iconst 1, 1) := by decide +kernel
theorem dL_act_200 : decode cL_act 200 = .ok (.ireturn, 1) := by decide +kernel
theorem dL_act_201 : decode cL_act 201 = .ok (.aload_n 3, 1) := by decide +kernel
theorem dL_act_202 : decode cL_act 202 = .ok (.iconst 0, 1) := by decide +kernel
theorem dL_act_203 : decode cL_act 203 = .ok (.dup2, 1) := by decide +kernel
theorem dL_act_204 : decode cL_act 204 = .ok (.iaload, 1) := by decide +kernel
theorem dL_act_205 : decode cL_act 205 = .ok (.iconst 1, 1) := by decide +kernel
theorem dL_act_206 : decode cL_act 206 = .ok (.isub, 1) := by decide +kernel
theorem dL_act_207 : decode cL_act 207 = .ok (.iastore, 1) := by decide +kernel
theorem dL_act_208 : decode cL_act 208 = .ok (.iload 9, 2) := by decide +kernel
theorem dL_act_210 : decode cL_act 210 = .ok (.istore 11, 2) := by decide +kernel
theorem dL_act_212 : decode cL_act 212 = .ok (.iload 11, 2) := by decide +kernel
theorem dL_act_214 : decode cL_act 214 = .ok (.aload_n 3, 1) := by decide +kernel
theorem dL_act_215 : decode cL_act 215 = .ok (.iconst 0, 1) := by decide +kernel
theorem dL_act_216 : decode cL_act 216 = .ok (.iaload, 1) := by decide +kernel
theorem dL_act_217 : decode cL_act 217 = .ok (.if_icmp .ge 80, 3) := by decide +kernel
theorem dL_act_220 : decode cL_act 220 = .ok (.aload 4, 2) := by decide +kernel
theorem dL_act_222 : decode cL_act 222 = .ok (.iload 11, 2) := by decide +kernel
theorem dL_act_224 : decode cL_act 224 = .ok (.aload 4, 2) := by decide +kernel
theorem dL_act_226 : decode cL_act 226 = .ok (.iload 11, 2) := by decide +kernel
theorem dL_act_228 : decode cL_act 228 = .ok (.iconst 1, 1) := by decide +kernel
theorem dL_act_229 : decode cL_act 229 = .ok (.iadd, 1) := by decide +kernel
theorem dL_act_230 : decode cL_act 230 = .ok (.iaload, 1) := by decide +kernel
theorem dL_act_231 : decode cL_act 231 = .ok (.iastore, 1) := by decide +kernel
theorem dL_act_232 : decode cL_act 232 = .ok (.iconst 0, 1) := by decide +kernel
theorem dL_act_233 : decode cL_act 233 = .ok (.istore 12, 2) := by decide +kernel
theorem dL_act_235 : decode cL_act 235 = .ok (.iload 12, 2) := by decide +kernel
theorem dL_act_237 : decode cL_act 237 = .ok (.iconst 4, 1) := by decide +kernel
theorem dL_act_238 : decode cL_act 238 = .ok (.if_icmp .ge 53, 3) := by decide +kernel
theorem dL_act_241 : decode cL_act 241 = .ok (.aload 6, 2) := by decide +kernel
theorem dL_act_243 : decode cL_act 243 = .ok (.iconst 4, 1) := by decide +kernel
theorem dL_act_244 : decode cL_act 244 = .ok (.iload 11, 2) := by decide +kernel
theorem dL_act_246 : decode cL_act 246 = .ok (.imul, 1) := by decide +kernel
theorem dL_act_247 : decode cL_act 247 = .ok (.iload 12, 2) := by decide +kernel
theorem dL_act_249 : decode cL_act 249 = .ok (.iadd, 1) := by decide +kernel
theorem dL_act_250 : decode cL_act 250 = .ok (.aload 6, 2) := by decide +kernel
theorem dL_act_252 : decode cL_act 252 = .ok (.iconst 4, 1) := by decide +kernel
theorem dL_act_253 : decode cL_act 253 = .ok (.iload 11, 2) := by decide +kernel
theorem dL_act_255 : decode cL_act 255 = .ok (.imul, 1) := by decide +kernel
theorem dL_act_256 : decode cL_act 256 = .ok (.iconst 4, 1) := by decide +kernel
theorem dL_act_257 : decode cL_act 257 = .ok (.iadd, 1) := by decide +kernel
theorem dL_act_258 : decode cL_act 258 = .ok (.iload 12, 2) := by decide +kernel
theorem dL_act_260 : decode cL_act 260 = .ok (.iadd, 1) := by decide +kernel
theorem dL_act_261 : decode cL_act 261 = .ok (.iaload, 1) := by decide +kernel
theorem dL_act_262 : decode cL_act 262 = .ok (.iastore, 1) := by decide +kernel
theorem dL_act_263 : decode cL_act 263 = .ok (.aload 5, 2) := by decide +kernel
theorem dL_act_265 : decode cL_act 265 = .ok (.iconst 4, 1) := by decide +kernel
theorem dL_act_266 : decode cL_act 266 = .ok (.iload 11, 2) := by decide +kernel
theorem dL_act_268 : decode cL_act 268 = .ok (.imul, 1) := by decide +kernel
theorem dL_act_269 : decode cL_act 269 = .ok (.iload 12, 2) := by decide +kernel
theorem dL_act_271 : decode cL_act 271 = .ok (.iadd, 1) := by decide +kernel
theorem dL_act_272 : decode cL_act 272 = .ok (.aload 5, 2) := by decide +kernel
theorem dL_act_274 : decode cL_act 274 = .ok (.iconst 4, 1) := by decide +kernel
theorem dL_act_275 : decode cL_act 275 = .ok (.iload 11, 2) := by decide +kernel
theorem dL_act_277 : decode cL_act 277 = .ok (.imul, 1) := by decide +kernel
theorem dL_act_278 : decode cL_act 278 = .ok (.iconst 4, 1) := by decide +kernel
theorem dL_act_279 : decode cL_act 279 = .ok (.iadd, 1) := by decide +kernel
theorem dL_act_280 : decode cL_act 280 = .ok (.iload 12, 2) := by decide +kernel
theorem dL_act_282 : decode cL_act 282 = .ok (.iadd, 1) := by decide +kernel
theorem dL_act_283 : decode cL_act 283 = .ok (.iaload, 1) := by decide +kernel
theorem dL_act_284 : decode cL_act 284 = .ok (.iastore, 1) := by decide +kernel
theorem dL_act_285 : decode cL_act 285 = .ok (.iinc 12 1, 3) := by decide +kernel
theorem dL_act_288 : decode cL_act 288 = .ok (.goto (-53), 3) := by decide +kernel
theorem dL_act_291 : decode cL_act 291 = .ok (.iinc 11 1, 3) := by decide +kernel
theorem dL_act_294 : decode cL_act 294 = .ok (.goto (-82), 3) := by decide +kernel
theorem dL_act_297 : decode cL_act 297 = .ok (.iconst 0, 1) := by decide +kernel
theorem dL_act_298 : decode cL_act 298 = .ok (.istore 11, 2) := by decide +kernel
theorem dL_act_300 : decode cL_act 300 = .ok (.iload 11, 2) := by decide +kernel
theorem dL_act_302 : decode cL_act 302 = .ok (.aload_n 3, 1) := by decide +kernel
theorem dL_act_303 : decode cL_act 303 = .ok (.iconst 0, 1) := by decide +kernel
theorem dL_act_304 : decode cL_act 304 = .ok (.iaload, 1) := by decide +kernel
theorem dL_act_305 : decode cL_act 305 = .ok (.if_icmp .ge 47, 3) := by decide +kernel
theorem dL_act_308 : decode cL_act 308 = .ok (.iload 9, 2) := by decide +kernel
theorem dL_act_310 : decode cL_act 310 = .ok (.istore 12, 2) := by decide +kernel
theorem dL_act_312 : decode cL_act 312 = .ok (.iload 12, 2) := by decide +kernel
theorem dL_act_314 : decode cL_act 314 = .ok (.iconst 3, 1) := by decide +kernel
theorem dL_act_315 : decode cL_act 315 = .ok (.if_icmp .ge 31, 3) := by decide +kernel
theorem dL_act_318 : decode cL_act 318 = .ok (.aload 5, 2) := by decide +kernel
theorem dL_act_320 : decode cL_act 320 = .ok (.iconst 4, 1) := by decide +kernel
theorem dL_act_321 : decode cL_act 321 = .ok (.iload 11, 2) := by decide +kernel
theorem dL_act_323 : decode cL_act 323 = .ok (.imul, 1) := by decide +kernel
theorem dL_act_324 : decode cL_act 324 = .ok (.iload 12, 2) := by decide +kernel
theorem dL_act_326 : decode cL_act 326 = .ok (.iadd, 1) := by decide +kernel
theorem dL_act_327 : decode cL_act 327 = .ok (.aload 5, 2) := by decide +kernel
theorem dL_act_329 : decode cL_act 329 = .ok (.iconst 4, 1) := by decide +kernel
theorem dL_act_330 : decode cL_act 330 = .ok (.iload 11, 2) := by decide +kernel
theorem dL_act_332 : decode cL_act 332 = .ok (.imul, 1) := by decide +kernel
theorem dL_act_333 : decode cL_act 333 = .ok (.iload 12, 2) := by decide +kernel
theorem dL_act_335 : decode cL_act 335 = .ok (.iadd, 1) := by decide +kernel
theorem dL_act_336 : decode cL_act 336 = .ok (.iconst 1, 1) := by decide +kernel
theorem dL_act_337 : decode cL_act 337 = .ok (.iadd, 1) := by decide +kernel
theorem dL_act_338 : decode cL_act 338 = .ok (.iaload, 1) := by decide +kernel
theorem dL_act_339 : decode cL_act 339 = .ok (.iastore, 1) := by decide +kernel
theorem dL_act_340 : decode cL_act 340 = .ok (.iinc 12 1, 3) := by decide +kernel
theorem dL_act_343 : decode cL_act 343 = .ok (.goto (-31), 3) := by decide +kernel
theorem dL_act_346 : decode cL_act 346 = .ok (.iinc 11 1, 3) := by decide +kernel
theorem dL_act_349 : decode cL_act 349 = .ok (.goto (-49), 3) := by decide +kernel
theorem dL_act_352 : decode cL_act 352 = .ok (.aload_n 0, 1) := by decide +kernel
theorem dL_act_353 : decode cL_act 353 = .ok (.iload 9, 2) := by decide +kernel
theorem dL_act_355 : decode cL_act 355 = .ok (.invokevirtual 62, 3) := by decide +kernel
theorem dL_act_358 : decode cL_act 358 = .ok (.aload_n 3, 1) := by decide +kernel
theorem dL_act_359 : decode cL_act 359 = .ok (.iconst 0, 1) := by decide +kernel
theorem dL_act_360 : decode cL_act 360 = .ok (.iaload, 1) := by decide +kernel
theorem dL_act_361 : decode cL_act 361 = .ok (.if_icmp .ne 7, 3) := by decide +kernel
theorem dL_act_364 : decode cL_act 364 = .ok (.iconst 1, 1) := by decide +kernel
theorem dL_act_365 : decode cL_act 365 = .ok (.goto 4, 3) := by decide +kernel
theorem dL_act_368 : decode cL_act 368 = .ok (.iconst 0, 1) := by decide +kernel
theorem dL_act_369 : decode cL_act 369 = .ok (.ireturn, 1) := by decide +kernel
theorem dL_act_370 : decode cL_act 370 = .ok (.iconst 0, 1) := by decide +kernel
theorem dL_act_371 : decode cL_act 371 = .ok (.istore 11, 2) := by decide +kernel
theorem dL_act_373 : decode cL_act 373 = .ok (.iload 8, 2) := by decide +kernel
theorem dL_act_375 : decode cL_act 375 = .ok (.iconst 5, 1) := by decide +kernel
theorem dL_act_376 : decode cL_act 376 = .ok (.if_icmp .ge 131, 3) := by decide +kernel
theorem dL_act_379 : decode cL_act 379 = .ok (.iload 9, 2) := by decide +kernel
theorem dL_act_381 : decode cL_act 381 = .ok (.iload 10, 2) := by decide +kernel
theorem dL_act_383 : decode cL_act 383 = .ok (.if_icmp .ne 5, 3) := by decide +kernel
theorem dL_act_386 : decode cL_act 386 = .ok (.iconst 1, 1) := by decide +kernel
theorem dL_act_387 : decode cL_act 387 = .ok (.ireturn, 1) := by decide +kernel
theorem dL_act_388 : decode cL_act 388 = .ok (.iload_n 2, 1) := by decide +kernel
theorem dL_act_389 : decode cL_act 389 = .ok (.iconst 4, 1) := by decide +kernel
theorem dL_act_390 : decode cL_act 390 = .ok (.ishr, 1) := by decide +kernel
theorem dL_act_391 : decode cL_act 391 = .ok (.iconst 3, 1) := by decide +kernel
theorem dL_act_392 : decode cL_act 392 = .ok (.invokestatic 56, 3) := by decide +kernel
theorem dL_act_395 : decode cL_act 395 = .ok (.ifCond .le 7, 3) := by decide +kernel
theorem dL_act_398 : decode cL_act 398 = .ok (.iconst 1, 1) := by decide +kernel
theorem dL_act_399 : decode cL_act 399 = .ok (.goto 4, 3) := by decide +kernel
theorem dL_act_402 : decode cL_act 402 = .ok (.iconst 0, 1) := by decide +kernel
theorem dL_act_403 : decode cL_act 403 = .ok (.istore 12, 2) := by decide +kernel
theorem dL_act_405 : decode cL_act 405 = .ok (.aload 5, 2) := by decide +kernel
theorem dL_act_407 : decode cL_act 407 = .ok (.iconst 4, 1) := by decide +kernel
theorem dL_act_408 : decode cL_act 408 = .ok (.iload 9, 2) := by decide +kernel
theorem dL_act_410 : decode cL_act 410 = .ok (.imul, 1) := by decide +kernel
theorem dL_act_411 : decode cL_act 411 = .ok (.iload 10, 2) := by decide +kernel
theorem dL_act_413 : decode cL_act 413 = .ok (.iadd, 1) := by decide +kernel
theorem dL_act_414 : decode cL_act 414 = .ok (.iload 12, 2) := by decide +kernel
theorem dL_act_416 : decode cL_act 416 = .ok (.iastore, 1) := by decide +kernel
theorem dL_act_417 : decode cL_act 417 = .ok (.aload 5, 2) := by decide +kernel
theorem dL_act_419 : decode cL_act 419 = .ok (.iconst 4, 1) := by decide +kernel
theorem dL_act_420 : decode cL_act 420 = .ok (.iload 10, 2) := by decide +kernel
theorem dL_act_422 : decode cL_act 422 = .ok (.imul, 1) := by decide +kernel
theorem dL_act_423 : decode cL_act 423 = .ok (.iload 9, 2) := by decide +kernel
theorem dL_act_425 : decode cL_act 425 = .ok (.iadd, 1) := by decide +kernel
theorem dL_act_426 : decode cL_act 426 = .ok (.iload 12, 2) := by decide +kernel
theorem dL_act_428 : decode cL_act 428 = .ok (.iastore, 1) := by decide +kernel
theorem dL_act_429 : decode cL_act 429 = .ok (.iconst 0, 1) := by decide +kernel
theorem dL_act_430 : decode cL_act 430 = .ok (.istore 13, 2) := by decide +kernel
theorem dL_act_432 : decode cL_act 432 = .ok (.iload 13, 2) := by decide +kernel
theorem dL_act_434 : decode cL_act 434 = .ok (.aload_n 3, 1) := by decide +kernel
theorem dL_act_435 : decode cL_act 435 = .ok (.iconst 0, 1) := by decide +kernel
theorem dL_act_436 : decode cL_act 436 = .ok (.iaload, 1) := by decide +kernel
theorem dL_act_437 : decode cL_act 437 = .ok (.if_icmp .ge 40, 3) := by decide +kernel
theorem dL_act_440 : decode cL_act 440 = .ok (.iconst 0, 1) := by decide +kernel
theorem dL_act_441 : decode cL_act 441 = .ok (.istore 14, 2) := by decide +kernel
theorem dL_act_443 : decode cL_act 443 = .ok (.iload 14, 2) := by decide +kernel
theorem dL_act_445 : decode cL_act 445 = .ok (.iload 13, 2) := by decide +kernel
theorem dL_act_447 : decode cL_act 447 = .ok (.if_icmp .ge 24, 3) := by decide +kernel
theorem dL_act_450 : decode cL_act 450 = .ok (.iload 11, 2) := by decide +kernel
theorem dL_act_452 : decode cL_act 452 = .ok (.aload 5, 2) := by decide +kernel
theorem dL_act_454 : decode cL_act 454 = .ok (.iconst 4, 1) := by decide +kernel
theorem dL_act_455 : decode cL_act 455 = .ok (.iload 13, 2) := by decide +kernel
theorem dL_act_457 : decode cL_act 457 = .ok (.imul, 1) := by decide +kernel
theorem dL_act_458 : decode cL_act 458 = .ok (.iload 14, 2) := by decide +kernel
theorem dL_act_460 : decode cL_act 460 = .ok (.iadd, 1) := by decide +kernel
theorem dL_act_461 : decode cL_act 461 = .ok (.iaload, 1) := by decide +kernel
theorem dL_act_462 : decode cL_act 462 = .ok (.iadd, 1) := by decide +kernel
theorem dL_act_463 : decode cL_act 463 = .ok (.istore 11, 2) := by decide +kernel
theorem dL_act_465 : decode cL_act 465 = .ok (.iinc 14 1, 3) := by decide +kernel
theorem dL_act_468 : decode cL_act 468 = .ok (.goto (-25), 3) := by decide +kernel
theorem dL_act_471 : decode cL_act 471 = .ok (.iinc 13 1, 3) := by decide +kernel
theorem dL_act_474 : decode cL_act 474 = .ok (.goto (-42), 3) := by decide +kernel
theorem dL_act_477 : decode cL_act 477 = .ok (.aload_n 0, 1) := by decide +kernel
theorem dL_act_478 : decode cL_act 478 = .ok (.iload 9, 2) := by decide +kernel
theorem dL_act_480 : decode cL_act 480 = .ok (.iload 10, 2) := by decide +kernel
theorem dL_act_482 : decode cL_act 482 = .ok (.iload 12, 2) := by decide +kernel
theorem dL_act_484 : decode cL_act 484 = .ok (.iconst 1, 1) := by decide +kernel
theorem dL_act_485 : decode cL_act 485 = .ok (.if_icmp .ne 7, 3) := by decide +kernel
theorem dL_act_488 : decode cL_act 488 = .ok (.iconst 1, 1) := by decide +kernel
theorem dL_act_489 : decode cL_act 489 = .ok (.goto 4, 3) := by decide +kernel
theorem dL_act_492 : decode cL_act 492 = .ok (.iconst 0, 1) := by decide +kernel
theorem dL_act_493 : decode cL_act 493 = .ok (.invokevirtual 65, 3) := by decide +kernel
theorem dL_act_496 : decode cL_act 496 = .ok (.iload 11, 2) := by decide +kernel
theorem dL_act_498 : decode cL_act 498 = .ok (.if_icmp .ne 7, 3) := by decide +kernel
theorem dL_act_501 : decode cL_act 501 = .ok (.iconst 1, 1) := by decide +kernel
theorem dL_act_502 : decode cL_act 502 = .ok (.goto 4, 3) := by decide +kernel
theorem dL_act_505 : decode cL_act 505 = .ok (.iconst 0, 1) := by decide +kernel
theorem dL_act_506 : decode cL_act 506 = .ok (.ireturn, 1) := by decide +kernel
theorem dL_act_507 : decode cL_act 507 = .ok (.iload 8, 2) := by decide +kernel
theorem dL_act_509 : decode cL_act 509 = .ok (.iconst 5, 1) := by decide +kernel
theorem dL_act_510 : decode cL_act 510 = .ok (.if_icmp .ne 103, 3) := by decide +kernel
theorem dL_act_513 : decode cL_act 513 = .ok (.iconst 0, 1) := by decide +kernel
theorem dL_act_514 : decode cL_act 514 = .ok (.istore 12, 2) := by decide +kernel
theorem dL_act_516 : decode cL_act 516 = .ok (.iload 12, 2) := by decide +kernel
theorem dL_act_518 : decode cL_act 518 = .ok (.aload_n 3, 1) := by decide +kernel
theorem dL_act_519 : decode cL_act 519 = .ok (.iconst 0, 1) := by decide +kernel
theorem dL_act_520 : decode cL_act 520 = .ok (.iaload, 1) := by decide +kernel
theorem dL_act_521 : decode cL_act 521 = .ok (.if_icmp .ge 77, 3) := by decide +kernel
theorem dL_act_524 : decode cL_act 524 = .ok (.iconst 0, 1) := by decide +kernel
theorem dL_act_525 : decode cL_act 525 = .ok (.istore 13, 2) := by decide +kernel
theorem dL_act_527 : decode cL_act 527 = .ok (.iload 13, 2) := by decide +kernel
theorem dL_act_529 : decode cL_act 529 = .ok (.aload_n 3, 1) := by decide +kernel
theorem dL_act_530 : decode cL_act 530 = .ok (.iconst 0, 1) := by decide +kernel
theorem dL_act_531 : decode cL_act 531 = .ok (.iaload, 1) := by decide +kernel
theorem dL_act_532 : decode cL_act 532 = .ok (.if_icmp .ge 60, 3) := by decide +kernel
theorem dL_act_535 : decode cL_act 535 = .ok (.iload 12, 2) := by decide +kernel
theorem dL_act_537 : decode cL_act 537 = .ok (.iload 13, 2) := by decide +kernel
theorem dL_act_539 : decode cL_act 539 = .ok (.if_icmp .eq 47, 3) := by decide +kernel
theorem dL_act_542 : decode cL_act 542 = .ok (.aload 5, 2) := by decide +kernel
theorem dL_act_544 : decode cL_act 544 = .ok (.iconst 4, 1) := by decide +kernel
theorem dL_act_545 : decode cL_act 545 = .ok (.iload 12, 2) := by decide +kernel
theorem dL_act_547 : decode cL_act 547 = .ok (.imul, 1) := by decide +kernel
theorem dL_act_548 : decode cL_act 548 = .ok (.iload 13, 2) := by decide +kernel
theorem dL_act_550 : decode cL_act 550 = .ok (.iadd, 1) := by decide +kernel
theorem dL_act_551 : decode cL_act 551 = .ok (.iconst 1, 1) := by decide +kernel
theorem dL_act_552 : decode cL_act 552 = .ok (.aload 5, 2) := by decide +kernel
theorem dL_act_554 : decode cL_act 554 = .ok (.iconst 4, 1) := by decide +kernel
theorem dL_act_555 : decode cL_act 555 = .ok (.iload 12, 2) := by decide +kernel
theorem dL_act_557 : decode cL_act 557 = .ok (.imul, 1) := by decide +kernel
theorem dL_act_558 : decode cL_act 558 = .ok (.iload 13, 2) := by decide +kernel
theorem dL_act_560 : decode cL_act 560 = .ok (.iadd, 1) := by decide +kernel
theorem dL_act_561 : decode cL_act 561 = .ok (.iaload, 1) := by decide +kernel
theorem dL_act_562 : decode cL_act 562 = .ok (.isub, 1) := by decide +kernel
theorem dL_act_563 : decode cL_act 563 = .ok (.iastore, 1) := by decide +kernel
theorem dL_act_564 : decode cL_act 564 = .ok (.iload 12, 2) := by decide +kernel
theorem dL_act_566 : decode cL_act 566 = .ok (.iload 13, 2) := by decide +kernel
theorem dL_act_568 : decode cL_act 568 = .ok (.if_icmp .le 18, 3) := by decide +kernel
theorem dL_act_571 : decode cL_act 571 = .ok (.iload 11, 2) := by decide +kernel
theorem dL_act_573 : decode cL_act 573 = .ok (.aload 5, 2) := by decide +kernel
theorem dL_act_575 : decode cL_act 575 = .ok (.iconst 4, 1) := by decide +kernel
theorem dL_act_576 : decode cL_act 576 = .ok (.iload 12, 2) := by decide +kernel
theorem dL_act_578 : decode cL_act 578 = .ok (.imul, 1) := by decide +kernel
theorem dL_act_579 : decode cL_act 579 = .ok (.iload 13, 2) := by decide +kernel
theorem dL_act_581 : decode cL_act 581 = .ok (.iadd, 1) := by decide +kernel
theorem dL_act_582 : decode cL_act 582 = .ok (.iaload, 1) := by decide +kernel
theorem dL_act_583 : decode cL_act 583 = .ok (.iadd, 1) := by decide +kernel
theorem dL_act_584 : decode cL_act 584 = .ok (.istore 11, 2) := by decide +kernel
theorem dL_act_586 : decode cL_act 586 = .ok (.iinc 13 1, 3) := by decide +kernel
theorem dL_act_589 : decode cL_act 589 = .ok (.goto (-62), 3) := by decide +kernel
theorem dL_act_592 : decode cL_act 592 = .ok (.iinc 12 1, 3) := by decide +kernel
theorem dL_act_595 : decode cL_act 595 = .ok (.goto (-79), 3) := by decide +kernel
theorem dL_act_598 : decode cL_act 598 = .ok (.aload_n 0, 1) := by decide +kernel
theorem dL_act_599 : decode cL_act 599 = .ok (.invokevirtual 69, 3) := by decide +kernel
theorem dL_act_602 : decode cL_act 602 = .ok (.iload 11, 2) := by decide +kernel
theorem dL_act_604 : decode cL_act 604 = .ok (.if_icmp .ne 7, 3) := by decide +kernel
theorem dL_act_607 : decode cL_act 607 = .ok (.iconst 1, 1) := by decide +kernel
theorem dL_act_608 : decode cL_act 608 = .ok (.goto 4, 3) := by decide +kernel
theorem dL_act_611 : decode cL_act 611 = .ok (.iconst 0, 1) := by decide +kernel
theorem dL_act_612 : decode cL_act 612 = .ok (.ireturn, 1) := by decide +kernel
theorem dL_act_613 : decode cL_act 613 = .ok (.iload 8, 2) := by decide +kernel
theorem dL_act_615 : decode cL_act 615 = .ok (.bipush 8, 2) := by decide +kernel
theorem dL_act_617 : decode cL_act 617 = .ok (.if_icmp .ge 45, 3) := by decide +kernel
theorem dL_act_620 : decode cL_act 620 = .ok (.aload 4, 2) := by decide +kernel
theorem dL_act_622 : decode cL_act 622 = .ok (.iload 9, 2) := by decide +kernel
theorem dL_act_624 : decode cL_act 624 = .ok (.iaload, 1) := by decide +kernel
theorem dL_act_625 : decode cL_act 625 = .ok (.istore 12, 2) := by decide +kernel
theorem dL_act_627 : decode cL_act 627 = .ok (.aload 4, 2) := by decide +kernel
theorem dL_act_629 : decode cL_act 629 = .ok (.iload 9, 2) := by decide +kernel
theorem dL_act_631 : decode cL_act 631 = .ok (.iload_n 2, 1) := by decide +kernel
theorem dL_act_632 : decode cL_act 632 = .ok (.iconst 4, 1) := by decide +kernel
theorem dL_act_633 : decode cL_act 633 = .ok (.ishr, 1) := by decide +kernel
theorem dL_act_634 : decode cL_act 634 = .ok (.bipush 10, 2) := by decide +kernel
theorem dL_act_636 : decode cL_act 636 = .ok (.invokestatic 56, 3) := by decide +kernel
theorem dL_act_639 : decode cL_act 639 = .ok (.iastore, 1) := by decide +kernel
theorem dL_act_640 : decode cL_act 640 = .ok (.aload_n 0, 1) := by decide +kernel
theorem dL_act_641 : decode cL_act 641 = .ok (.iload 9, 2) := by decide +kernel
theorem dL_act_643 : decode cL_act 643 = .ok (.aload 4, 2) := by decide +kernel
theorem dL_act_645 : decode cL_act 645 = .ok (.iload 9, 2) := by decide +kernel
theorem dL_act_647 : decode cL_act 647 = .ok (.iaload, 1) := by decide +kernel
theorem dL_act_648 : decode cL_act 648 = .ok (.invokevirtual 73, 3) := by decide +kernel
theorem dL_act_651 : decode cL_act 651 = .ok (.iload 12, 2) := by decide +kernel
theorem dL_act_653 : decode cL_act 653 = .ok (.if_icmp .ne 7, 3) := by decide +kernel
theorem dL_act_656 : decode cL_act 656 = .ok (.iconst 1, 1) := by decide +kernel
theorem dL_act_657 : decode cL_act 657 = .ok (.goto 4, 3) := by decide +kernel
theorem dL_act_660 : decode cL_act 660 = .ok (.iconst 0, 1) := by decide +kernel
theorem dL_act_661 : decode cL_act 661 = .ok (.ireturn, 1) := by decide +kernel
theorem dL_act_662 : decode cL_act 662 = .ok (.iload_n 2, 1) := by decide +kernel
theorem dL_act_663 : decode cL_act 663 = .ok (.iconst 4, 1) := by decide +kernel
theorem dL_act_664 : decode cL_act 664 = .ok (.ishr, 1) := by decide +kernel
theorem dL_act_665 : decode cL_act 665 = .ok (.aload_n 3, 1) := by decide +kernel
theorem dL_act_666 : decode cL_act 666 = .ok (.iconst 1, 1) := by decide +kernel
theorem dL_act_667 : decode cL_act 667 = .ok (.iaload, 1) := by decide +kernel
theorem dL_act_668 : decode cL_act 668 = .ok (.invokestatic 56, 3) := by decide +kernel
theorem dL_act_671 : decode cL_act 671 = .ok (.istore 12, 2) := by decide +kernel
theorem dL_act_673 : decode cL_act 673 = .ok (.iload_n 2, 1) := by decide +kernel
theorem dL_act_674 : decode cL_act 674 = .ok (.bipush 6, 2) := by decide +kernel
theorem dL_act_676 : decode cL_act 676 = .ok (.ishr, 1) := by decide +kernel
theorem dL_act_677 : decode cL_act 677 = .ok (.iconst 3, 1) := by decide +kernel
theorem dL_act_678 : decode cL_act 678 = .ok (.invokestatic 56, 3) := by decide +kernel
theorem dL_act_681 : decode cL_act 681 = .ok (.ifCond .ne 18, 3) := by decide +kernel
theorem dL_act_684 : decode cL_act 684 = .ok (.iload_n 2, 1) := by decide +kernel
theorem dL_act_685 : decode cL_act 685 = .ok (.bipush 8, 2) := by decide +kernel
theorem dL_act_687 : decode cL_act 687 = .ok (.ishr, 1) := by decide +kernel
theorem dL_act_688 : decode cL_act 688 = .ok (.bipush 19, 2) := by decide +kernel
theorem dL_act_690 : decode cL_act 690 = .ok (.invokestatic 56, 3) := by decide +kernel
theorem dL_act_693 : decode cL_act 693 = .ok (.bipush 9, 2) := by decide +kernel
theorem dL_act_695 : decode cL_act 695 = .ok (.isub, 1) := by decide +kernel
theorem dL_act_696 : decode cL_act 696 = .ok (.goto 13, 3) := by decide +kernel
theorem dL_act_699 : decode cL_act 699 = .ok (.iload_n 2, 1) := by decide +kernel
theorem dL_act_700 : decode cL_act 700 = .ok (.bipush 8, 2) := by decide +kernel
theorem dL_act_702 : decode cL_act 702 = .ok (.ishr, 1) := by decide +kernel
theorem dL_act_703 : decode cL_act 703 = .ok (.iconst 3, 1) := by decide +kernel
theorem dL_act_704 : decode cL_act 704 = .ok (.invokestatic 56, 3) := by decide +kernel
theorem dL_act_707 : decode cL_act 707 = .ok (.iconst 1, 1) := by decide +kernel
theorem dL_act_708 : decode cL_act 708 = .ok (.isub, 1) := by decide +kernel
theorem dL_act_709 : decode cL_act 709 = .ok (.istore 13, 2) := by decide +kernel
theorem dL_act_711 : decode cL_act 711 = .ok (.iload 8, 2) := by decide +kernel
theorem dL_act_713 : decode cL_act 713 = .ok (.bipush 13, 2) := by decide +kernel
theorem dL_act_715 : decode cL_act 715 = .ok (.if_icmp .ge 48, 3) := by decide +kernel
theorem dL_act_718 : decode cL_act 718 = .ok (.aload 6, 2) := by decide +kernel
theorem dL_act_720 : decode cL_act 720 = .ok (.iconst 4, 1) := by decide +kernel
theorem dL_act_721 : decode cL_act 721 = .ok (.iload 9, 2) := by decide +kernel
theorem dL_act_723 : decode cL_act 723 = .ok (.imul, 1) := by decide +kernel
theorem dL_act_724 : decode cL_act 724 = .ok (.iload 12, 2) := by decide +kernel
theorem dL_act_726 : decode cL_act 726 = .ok (.iadd, 1) := by decide +kernel
theorem dL_act_727 : decode cL_act 727 = .ok (.iaload, 1) := by decide +kernel
theorem dL_act_728 : decode cL_act 728 = .ok (.istore 14, 2) := by decide +kernel
theorem dL_act_730 : decode cL_act 730 = .ok (.aload 6, 2) := by decide +kernel
theorem dL_act_732 : decode cL_act 732 = .ok (.iconst 4, 1) := by decide +kernel
theorem dL_act_733 : decode cL_act 733 = .ok (.iload 9, 2) := by decide +kernel
theorem dL_act_735 : decode cL_act 735 = .ok (.imul, 1) := by decide +kernel
theorem dL_act_736 : decode cL_act 736 = .ok (.iload 12, 2) := by decide +kernel
theorem dL_act_738 : decode cL_act 738 = .ok (.iadd, 1) := by decide +kernel
theorem dL_act_739 : decode cL_act 739 = .ok (.iload 13, 2) := by decide +kernel
theorem dL_act_741 : decode cL_act 741 = .ok (.iastore, 1) := by decide +kernel
theorem dL_act_742 : decode cL_act 742 = .ok (.aload_n 0, 1) := by decide +kernel
theorem dL_act_743 : decode cL_act 743 = .ok (.iload 9, 2) := by decide +kernel
theorem dL_act_745 : decode cL_act 745 = .ok (.iload 12, 2) := by decide +kernel
theorem dL_act_747 : decode cL_act 747 = .ok (.iload 13, 2) := by decide +kernel
theorem dL_act_749 : decode cL_act 749 = .ok (.invokevirtual 76, 3) := by decide +kernel
theorem dL_act_752 : decode cL_act 752 = .ok (.iload 14, 2) := by decide +kernel
theorem dL_act_754 : decode cL_act 754 = .ok (.if_icmp .ne 7, 3) := by decide +kernel
theorem dL_act_757 : decode cL_act 757 = .ok (.iconst 1, 1) := by decide +kernel
theorem dL_act_758 : decode cL_act 758 = .ok (.goto 4, 3) := by decide +kernel
theorem dL_act_761 : decode cL_act 761 = .ok (.iconst 0, 1) := by decide +kernel
theorem dL_act_762 : decode cL_act 762 = .ok (.ireturn, 1) := by decide +kernel
theorem dL_act_763 : decode cL_act 763 = .ok (.aload 7, 2) := by decide +kernel
theorem dL_act_765 : decode cL_act 765 = .ok (.iload 12, 2) := by decide +kernel
theorem dL_act_767 : decode cL_act 767 = .ok (.iaload, 1) := by decide +kernel
theorem dL_act_768 : decode cL_act 768 = .ok (.istore 14, 2) := by decide +kernel
theorem dL_act_770 : decode cL_act 770 = .ok (.aload 7, 2) := by decide +kernel
theorem dL_act_772 : decode cL_act 772 = .ok (.iload 12, 2) := by decide +kernel
theorem dL_act_774 : decode cL_act 774 = .ok (.iload 13, 2) := by decide +kernel
theorem dL_act_776 : decode cL_act 776 = .ok (.iastore, 1) := by decide +kernel
theorem dL_act_777 : decode cL_act 777 = .ok (.aload_n 0, 1) := by decide +kernel
theorem dL_act_778 : decode cL_act 778 = .ok (.iload 12, 2) := by decide +kernel
theorem dL_act_780 : decode cL_act 780 = .ok (.iload 13, 2) := by decide +kernel
theorem dL_act_782 : decode cL_act 782 = .ok (.invokevirtual 80, 3) := by decide +kernel
theorem dL_act_785 : decode cL_act 785 = .ok (.iload 14, 2) := by decide +kernel
theorem dL_act_787 : decode cL_act 787 = .ok (.if_icmp .ne 7, 3) := by decide +kernel
theorem dL_act_790 : decode cL_act 790 = .ok (.iconst 1, 1) := by decide +kernel
theorem dL_act_791 : decode cL_act 791 = .ok (.goto 4, 3) := by decide +kernel
theorem dL_act_794 : decode cL_act 794 = .ok (.iconst 0, 1) := by decide +kernel
theorem dL_act_795 : decode cL_act 795 = .ok (.ireturn, 1) := by decide +kernel
theorem dL_agree_0 : decode cL_agree 0 = .ok (.iconst 0, 1) := by decide +kernel
theorem dL_agree_1 : decode cL_agree 1 = .ok (.istore 6, 2) := by decide +kernel
theorem dL_agree_3 : decode cL_agree 3 = .ok (.iconst 0, 1) := by decide +kernel
theorem dL_agree_4 : decode cL_agree 4 = .ok (.istore 7, 2) := by decide +kernel
theorem dL_agree_6 : decode cL_agree 6 = .ok (.iload 7, 2) := by decide +kernel
theorem dL_agree_8 : decode cL_agree 8 = .ok (.aload_n 1, 1) := by decide +kernel
theorem dL_agree_9 : decode cL_agree 9 = .ok (.iconst 0, 1) := by decide +kernel
theorem dL_agree_10 : decode cL_agree 10 = .ok (.iaload, 1) := by decide +kernel
theorem dL_agree_11 : decode cL_agree 11 = .ok (.if_icmp .ge 213, 3) := by decide +kernel
theorem dL_agree_14 : decode cL_agree 14 = .ok (.iconst 0, 1) := by decide +kernel
theorem dL_agree_15 : decode cL_agree 15 = .ok (.istore 8, 2) := by decide +kernel
theorem dL_agree_17 : decode cL_agree 17 = .ok (.iconst 0, 1) := by decide +kernel
theorem dL_agree_18 : decode cL_agree 18 = .ok (.istore 9, 2) := by decide +kernel
theorem dL_agree_20 : decode cL_agree 20 = .ok (.iload 9, 2) := by decide +kernel
theorem dL_agree_22 : decode cL_agree 22 = .ok (.aload_n 1, 1) := by decide +kernel
theorem dL_agree_23 : decode cL_agree 23 = .ok (.iconst 0, 1) := by decide +kernel
theorem dL_agree_24 : decode cL_agree 24 = .ok (.iaload, 1) := by decide +kernel
theorem dL_agree_25 : decode cL_agree 25 = .ok (.if_icmp .ge 83, 3) := by decide +kernel
theorem dL_agree_28 : decode cL_agree 28 = .ok (.iload 7, 2) := by decide +kernel
theorem dL_agree_30 : decode cL_agree 30 = .ok (.iload 9, 2) := by decide +kernel
theorem dL_agree_32 : decode cL_agree 32 = .ok (.if_icmp .ne 7, 3) := by decide +kernel
theorem dL_agree_35 : decode cL_agree 35 = .ok (.iconst 0, 1) := by decide +kernel
theorem dL_agree_36 : decode cL_agree 36 = .ok (.goto 12, 3) := by decide +kernel
theorem dL_agree_39 : decode cL_agree 39 = .ok (.aload_n 3, 1) := by decide +kernel
theorem dL_agree_40 : decode cL_agree 40 = .ok (.iconst 4, 1) := by decide +kernel
theorem dL_agree_41 : decode cL_agree 41 = .ok (.iload 7, 2) := by decide +kernel
theorem dL_agree_43 : decode cL_agree 43 = .ok (.imul, 1) := by decide +kernel
theorem dL_agree_44 : decode cL_agree 44 = .ok (.iload 9, 2) := by decide +kernel
theorem dL_agree_46 : decode cL_agree 46 = .ok (.iadd, 1) := by decide +kernel
theorem dL_agree_47 : decode cL_agree 47 = .ok (.iaload, 1) := by decide +kernel
theorem dL_agree_48 : decode cL_agree 48 = .ok (.istore 10, 2) := by decide +kernel
theorem dL_agree_50 : decode cL_agree 50 = .ok (.iload 8, 2) := by decide +kernel
theorem dL_agree_52 : decode cL_agree 52 = .ok (.iload 10, 2) := by decide +kernel
theorem dL_agree_54 : decode cL_agree 54 = .ok (.iadd, 1) := by decide +kernel
theorem dL_agree_55 : decode cL_agree 55 = .ok (.istore 8, 2) := by decide +kernel
theorem dL_agree_57 : decode cL_agree 57 = .ok (.aload_n 0, 1) := by decide +kernel
theorem dL_agree_58 : decode cL_agree 58 = .ok (.iload 7, 2) := by decide +kernel
theorem dL_agree_60 : decode cL_agree 60 = .ok (.iload 9, 2) := by decide +kernel
theorem dL_agree_62 : decode cL_agree 62 = .ok (.invokevirtual 83, 3) := by decide +kernel
theorem dL_agree_65 : decode cL_agree 65 = .ok (.iload 10, 2) := by decide +kernel
theorem dL_agree_67 : decode cL_agree 67 = .ok (.if_icmp .eq 5, 3) := by decide +kernel
theorem dL_agree_70 : decode cL_agree 70 = .ok (.iconst 0, 1) := by decide +kernel
theorem dL_agree_71 : decode cL_agree 71 = .ok (.ireturn, 1) := by decide +kernel
theorem dL_agree_72 : decode cL_agree 72 = .ok (.iload 7, 2) := by decide +kernel
theorem dL_agree_74 : decode cL_agree 74 = .ok (.iload 9, 2) := by decide +kernel
theorem dL_agree_76 : decode cL_agree 76 = .ok (.if_icmp .ge 26, 3) := by decide +kernel
theorem dL_agree_79 : decode cL_agree 79 = .ok (.iload 10, 2) := by decide +kernel
theorem dL_agree_81 : decode cL_agree 81 = .ok (.iconst 1, 1) := by decide +kernel
theorem dL_agree_82 : decode cL_agree 82 = .ok (.if_icmp .ne 20, 3) := by decide +kernel
theorem dL_agree_85 : decode cL_agree 85 = .ok (.aload 4, 2) := by decide +kernel
theorem dL_agree_87 : decode cL_agree 87 = .ok (.iload 7, 2) := by decide +kernel
theorem dL_agree_89 : decode cL_agree 89 = .ok (.aload 4, 2) := by decide +kernel
theorem dL_agree_91 : decode cL_agree 91 = .ok (.iload 9, 2) := by decide +kernel
theorem dL_agree_93 : decode cL_agree 93 = .ok (.invokestatic 8, 3) := by decide +kernel
theorem dL_agree_96 : decode cL_agree 96 = .ok (.ifCond .eq 6, 3) := by decide +kernel
theorem dL_agree_99 : decode cL_agree 99 = .ok (.iinc 6 1, 3) := by decide +kernel
theorem dL_agree_102 : decode cL_agree 102 = .ok (.iinc 9 1, 3) := by decide +kernel
theorem dL_agree_105 : decode cL_agree 105 = .ok (.goto (-85), 3) := by decide +kernel
theorem dL_agree_108 : decode cL_agree 108 = .ok (.aload_n 0, 1) := by decide +kernel
theorem dL_agree_109 : decode cL_agree 109 = .ok (.iload 7, 2) := by decide +kernel
theorem dL_agree_111 : decode cL_agree 111 = .ok (.iconst 0, 1) := by decide +kernel
theorem dL_agree_112 : decode cL_agree 112 = .ok (.invokevirtual 49, 3) := by decide +kernel
theorem dL_agree_115 : decode cL_agree 115 = .ok (.aload_n 2, 1) := by decide +kernel
theorem dL_agree_116 : decode cL_agree 116 = .ok (.iload 7, 2) := by decide +kernel
theorem dL_agree_118 : decode cL_agree 118 = .ok (.iaload, 1) := by decide +kernel
theorem dL_agree_119 : decode cL_agree 119 = .ok (.if_icmp .ne 56, 3) := by decide +kernel
theorem dL_agree_122 : decode cL_agree 122 = .ok (.aload_n 0, 1) := by decide +kernel
theorem dL_agree_123 : decode cL_agree 123 = .ok (.iload 7, 2) := by decide +kernel
theorem dL_agree_125 : decode cL_agree 125 = .ok (.iconst 1, 1) := by decide +kernel
theorem dL_agree_126 : decode cL_agree 126 = .ok (.invokevirtual 49, 3) := by decide +kernel
theorem dL_agree_129 : decode cL_agree 129 = .ok (.iload 8, 2) := by decide +kernel
theorem dL_agree_131 : decode cL_agree 131 = .ok (.if_icmp .ne 44, 3) := by decide +kernel
theorem dL_agree_134 : decode cL_agree 134 = .ok (.aload_n 0, 1) := by decide +kernel
theorem dL_agree_135 : decode cL_agree 135 = .ok (.iload 7, 2) := by decide +kernel
theorem dL_agree_137 : decode cL_agree 137 = .ok (.iconst 2, 1) := by decide +kernel
theorem dL_agree_138 : decode cL_agree 138 = .ok (.invokevirtual 49, 3) := by decide +kernel
theorem dL_agree_141 : decode cL_agree 141 = .ok (.aload 4, 2) := by decide +kernel
theorem dL_agree_143 : decode cL_agree 143 = .ok (.iload 7, 2) := by decide +kernel
theorem dL_agree_145 : decode cL_agree 145 = .ok (.aload 4, 2) := by decide +kernel
theorem dL_agree_147 : decode cL_agree 147 = .ok (.iload 7, 2) := by decide +kernel
theorem dL_agree_149 : decode cL_agree 149 = .ok (.invokestatic 8, 3) := by decide +kernel
theorem dL_agree_152 : decode cL_agree 152 = .ok (.if_icmp .ne 23, 3) := by decide +kernel
theorem dL_agree_155 : decode cL_agree 155 = .ok (.aload_n 0, 1) := by decide +kernel
theorem dL_agree_156 : decode cL_agree 156 = .ok (.iload 7, 2) := by decide +kernel
theorem dL_agree_158 : decode cL_agree 158 = .ok (.iconst 3, 1) := by decide +kernel
theorem dL_agree_159 : decode cL_agree 159 = .ok (.invokevirtual 49, 3) := by decide +kernel
theorem dL_agree_162 : decode cL_agree 162 = .ok (.aload 4, 2) := by decide +kernel
theorem dL_agree_164 : decode cL_agree 164 = .ok (.iload 7, 2) := by decide +kernel
theorem dL_agree_166 : decode cL_agree 166 = .ok (.aload 5, 2) := by decide +kernel
theorem dL_agree_168 : decode cL_agree 168 = .ok (.iconst 0, 1) := by decide +kernel
theorem dL_agree_169 : decode cL_agree 169 = .ok (.invokestatic 8, 3) := by decide +kernel
theorem dL_agree_172 : decode cL_agree 172 = .ok (.if_icmp .eq 5, 3) := by decide +kernel
theorem dL_agree_175 : decode cL_agree 175 = .ok (.iconst 0, 1) := by decide +kernel
theorem dL_agree_176 : decode cL_agree 176 = .ok (.ireturn, 1) := by decide +kernel
theorem dL_agree_177 : decode cL_agree 177 = .ok (.iconst 0, 1) := by decide +kernel
theorem dL_agree_178 : decode cL_agree 178 = .ok (.istore 9, 2) := by decide +kernel
theorem dL_agree_180 : decode cL_agree 180 = .ok (.iload 9, 2) := by decide +kernel
theorem dL_agree_182 : decode cL_agree 182 = .ok (.iconst 4, 1) := by decide +kernel
theorem dL_agree_183 : decode cL_agree 183 = .ok (.if_icmp .ge 35, 3) := by decide +kernel
theorem dL_agree_186 : decode cL_agree 186 = .ok (.aload_n 0, 1) := by decide +kernel
theorem dL_agree_187 : decode cL_agree 187 = .ok (.iload 7, 2) := by decide +kernel
theorem dL_agree_189 : decode cL_agree 189 = .ok (.bipush 10, 2) := by decide +kernel
theorem dL_agree_191 : decode cL_agree 191 = .ok (.iload 9, 2) := by decide +kernel
theorem dL_agree_193 : decode cL_agree 193 = .ok (.iadd, 1) := by decide +kernel
theorem dL_agree_194 : decode cL_agree 194 = .ok (.invokevirtual 49, 3) := by decide +kernel
theorem dL_agree_197 : decode cL_agree 197 = .ok (.aload 4, 2) := by decide +kernel
theorem dL_agree_199 : decode cL_agree 199 = .ok (.iconst 4, 1) := by decide +kernel
theorem dL_agree_200 : decode cL_agree 200 = .ok (.iload 7, 2) := by decide +kernel
theorem dL_agree_202 : decode cL_agree 202 = .ok (.imul, 1) := by decide +kernel
theorem dL_agree_203 : decode cL_agree 203 = .ok (.iload 9, 2) := by decide +kernel
theorem dL_agree_205 : decode cL_agree 205 = .ok (.iadd, 1) := by decide +kernel
theorem dL_agree_206 : decode cL_agree 206 = .ok (.iaload, 1) := by decide +kernel
theorem dL_agree_207 : decode cL_agree 207 = .ok (.if_icmp .eq 5, 3) := by decide +kernel
theorem dL_agree_210 : decode cL_agree 210 = .ok (.iconst 0, 1) := by decide +kernel
theorem dL_agree_211 : decode cL_agree 211 = .ok (.ireturn, 1) := by decide +kernel
theorem dL_agree_212 : decode cL_agree 212 = .ok (.iinc 9 1, 3) := by decide +kernel
theorem dL_agree_215 : decode cL_agree 215 = .ok (.goto (-35), 3) := by decide +kernel
theorem dL_agree_218 : decode cL_agree 218 = .ok (.iinc 7 1, 3) := by decide +kernel
theorem dL_agree_221 : decode cL_agree 221 = .ok (.goto (-215), 3) := by decide +kernel
theorem dL_agree_224 : decode cL_agree 224 = .ok (.iconst 0, 1) := by decide +kernel
theorem dL_agree_225 : decode cL_agree 225 = .ok (.istore 7, 2) := by decide +kernel
theorem dL_agree_227 : decode cL_agree 227 = .ok (.iload 7, 2) := by decide +kernel
theorem dL_agree_229 : decode cL_agree 229 = .ok (.aload_n 1, 1) := by decide +kernel
theorem dL_agree_230 : decode cL_agree 230 = .ok (.iconst 1, 1) := by decide +kernel
theorem dL_agree_231 : decode cL_agree 231 = .ok (.iaload, 1) := by decide +kernel
theorem dL_agree_232 : decode cL_agree 232 = .ok (.if_icmp .ge 25, 3) := by decide +kernel
theorem dL_agree_235 : decode cL_agree 235 = .ok (.aload_n 0, 1) := by decide +kernel
theorem dL_agree_236 : decode cL_agree 236 = .ok (.iload 7, 2) := by decide +kernel
theorem dL_agree_238 : decode cL_agree 238 = .ok (.invokevirtual 86, 3) := by decide +kernel
theorem dL_agree_241 : decode cL_agree 241 = .ok (.aload 5, 2) := by decide +kernel
theorem dL_agree_243 : decode cL_agree 243 = .ok (.iload 7, 2) := by decide +kernel
theorem dL_agree_245 : decode cL_agree 245 = .ok (.iaload, 1) := by decide +kernel
theorem dL_agree_246 : decode cL_agree 246 = .ok (.if_icmp .eq 5, 3) := by decide +kernel
theorem dL_agree_249 : decode cL_agree 249 = .ok (.iconst 0, 1) := by decide +kernel
theorem dL_agree_250 : decode cL_agree 250 = .ok (.ireturn, 1) := by decide +kernel
theorem dL_agree_251 : decode cL_agree 251 = .ok (.iinc 7 1, 3) := by decide +kernel
theorem dL_agree_254 : decode cL_agree 254 = .ok (.goto (-27), 3) := by decide +kernel
theorem dL_agree_257 : decode cL_agree 257 = .ok (.aload_n 0, 1) := by decide +kernel
theorem dL_agree_258 : decode cL_agree 258 = .ok (.iconst 0, 1) := by decide +kernel
theorem dL_agree_259 : decode cL_agree 259 = .ok (.invokevirtual 42, 3) := by decide +kernel
theorem dL_agree_262 : decode cL_agree 262 = .ok (.aload_n 1, 1) := by decide +kernel
theorem dL_agree_263 : decode cL_agree 263 = .ok (.iconst 0, 1) := by decide +kernel
theorem dL_agree_264 : decode cL_agree 264 = .ok (.iaload, 1) := by decide +kernel
theorem dL_agree_265 : decode cL_agree 265 = .ok (.if_icmp .ne 92, 3) := by decide +kernel
theorem dL_agree_268 : decode cL_agree 268 = .ok (.aload_n 0, 1) := by decide +kernel
theorem dL_agree_269 : decode cL_agree 269 = .ok (.iconst 1, 1) := by decide +kernel
theorem dL_agree_270 : decode cL_agree 270 = .ok (.invokevirtual 42, 3) := by decide +kernel
theorem dL_agree_273 : decode cL_agree 273 = .ok (.aload_n 1, 1) := by decide +kernel
theorem dL_agree_274 : decode cL_agree 274 = .ok (.iconst 1, 1) := by decide +kernel
theorem dL_agree_275 : decode cL_agree 275 = .ok (.iaload, 1) := by decide +kernel
theorem dL_agree_276 : decode cL_agree 276 = .ok (.if_icmp .ne 81, 3) := by decide +kernel
theorem dL_agree_279 : decode cL_agree 279 = .ok (.aload_n 0, 1) := by decide +kernel
theorem dL_agree_280 : decode cL_agree 280 = .ok (.bipush 7, 2) := by decide +kernel
theorem dL_agree_282 : decode cL_agree 282 = .ok (.invokevirtual 42, 3) := by decide +kernel
theorem dL_agree_285 : decode cL_agree 285 = .ok (.iload 6, 2) := by decide +kernel
theorem dL_agree_287 : decode cL_agree 287 = .ok (.if_icmp .ne 70, 3) := by decide +kernel
theorem dL_agree_290 : decode cL_agree 290 = .ok (.aload_n 0, 1) := by decide +kernel
theorem dL_agree_291 : decode cL_agree 291 = .ok (.bipush 8, 2) := by decide +kernel
theorem dL_agree_293 : decode cL_agree 293 = .ok (.invokevirtual 42, 3) := by decide +kernel
theorem dL_agree_296 : decode cL_agree 296 = .ok (.aload 5, 2) := by decide +kernel
theorem dL_agree_298 : decode cL_agree 298 = .ok (.iconst 0, 1) := by decide +kernel
theorem dL_agree_299 : decode cL_agree 299 = .ok (.aload 5, 2) := by decide +kernel
theorem dL_agree_301 : decode cL_agree 301 = .ok (.iconst 0, 1) := by decide +kernel
theorem dL_agree_302 : decode cL_agree 302 = .ok (.invokestatic 8, 3) := by decide +kernel
theorem dL_agree_305 : decode cL_agree 305 = .ok (.if_icmp .ne 52, 3) := by decide +kernel
theorem dL_agree_308 : decode cL_agree 308 = .ok (.aload_n 0, 1) := by decide +kernel
theorem dL_agree_309 : decode cL_agree 309 = .ok (.bipush 11, 2) := by decide +kernel
theorem dL_agree_311 : decode cL_agree 311 = .ok (.invokevirtual 42, 3) := by decide +kernel
theorem dL_agree_314 : decode cL_agree 314 = .ok (.aload_n 1, 1) := by decide +kernel
theorem dL_agree_315 : decode cL_agree 315 = .ok (.iconst 2, 1) := by decide +kernel
theorem dL_agree_316 : decode cL_agree 316 = .ok (.iaload, 1) := by decide +kernel
theorem dL_agree_317 : decode cL_agree 317 = .ok (.if_icmp .ne 40, 3) := by decide +kernel
theorem dL_agree_320 : decode cL_agree 320 = .ok (.aload_n 0, 1) := by decide +kernel
theorem dL_agree_321 : decode cL_agree 321 = .ok (.aload_n 1, 1) := by decide +kernel
theorem dL_agree_322 : decode cL_agree 322 = .ok (.aload_n 2, 1) := by decide +kernel
theorem dL_agree_323 : decode cL_agree 323 = .ok (.aload_n 3, 1) := by decide +kernel
theorem dL_agree_324 : decode cL_agree 324 = .ok (.aload 4, 2) := by decide +kernel
theorem dL_agree_326 : decode cL_agree 326 = .ok (.aload 5, 2) := by decide +kernel
theorem dL_agree_328 : decode cL_agree 328 = .ok (.invokestatic 89, 3) := by decide +kernel
theorem dL_agree_331 : decode cL_agree 331 = .ok (.ifCond .eq 26, 3) := by decide +kernel
theorem dL_agree_334 : decode cL_agree 334 = .ok (.aload_n 0, 1) := by decide +kernel
theorem dL_agree_335 : decode cL_agree 335 = .ok (.aload_n 1, 1) := by decide +kernel
theorem dL_agree_336 : decode cL_agree 336 = .ok (.aload_n 2, 1) := by decide +kernel
theorem dL_agree_337 : decode cL_agree 337 = .ok (.aload_n 3, 1) := by decide +kernel
theorem dL_agree_338 : decode cL_agree 338 = .ok (.invokestatic 92, 3) := by decide +kernel
theorem dL_agree_341 : decode cL_agree 341 = .ok (.ifCond .eq 16, 3) := by decide +kernel
theorem dL_agree_344 : decode cL_agree 344 = .ok (.aload_n 0, 1) := by decide +kernel
theorem dL_agree_345 : decode cL_agree 345 = .ok (.aload_n 1, 1) := by decide +kernel
theorem dL_agree_346 : decode cL_agree 346 = .ok (.aload_n 3, 1) := by decide +kernel
theorem dL_agree_347 : decode cL_agree 347 = .ok (.invokestatic 96, 3) := by decide +kernel
theorem dL_agree_350 : decode cL_agree 350 = .ok (.ifCond .eq 7, 3) := by decide +kernel
theorem dL_agree_353 : decode cL_agree 353 = .ok (.iconst 1, 1) := by decide +kernel
theorem dL_agree_354 : decode cL_agree 354 = .ok (.goto 4, 3) := by decide +kernel
theorem dL_agree_357 : decode cL_agree 357 = .ok (.iconst 0, 1) := by decide +kernel
theorem dL_agree_358 : decode cL_agree 358 = .ok (.ireturn, 1) := by decide +kernel
theorem dL_law_0 : decode cL_law 0 = .ok (.new 23, 3) := by decide +kernel
theorem dL_law_3 : decode cL_law 3 = .ok (.dup, 1) := by decide +kernel
theorem dL_law_4 : decode cL_law 4 = .ok (.invokespecial 100, 3) := by decide +kernel
theorem dL_law_7 : decode cL_law 7 = .ok (.astore_n 1, 1) := by decide +kernel
theorem dL_law_8 : decode cL_law 8 = .ok (.iconst 3, 1) := by decide +kernel
theorem dL_law_9 : decode cL_law 9 = .ok (.newarray .int, 2) := by decide +kernel
theorem dL_law_11 : decode cL_law 11 = .ok (.astore_n 2, 1) := by decide +kernel
theorem dL_law_12 : decode cL_law 12 = .ok (.iconst 4, 1) := by decide +kernel
theorem dL_law_13 : decode cL_law 13 = .ok (.newarray .int, 2) := by decide +kernel
theorem dL_law_15 : decode cL_law 15 = .ok (.astore_n 3, 1) := by decide +kernel
theorem dL_law_16 : decode cL_law 16 = .ok (.bipush 20, 2) := by decide +kernel
theorem dL_law_18 : decode cL_law 18 = .ok (.newarray .int, 2) := by decide +kernel
theorem dL_law_20 : decode cL_law 20 = .ok (.astore 4, 2) := by decide +kernel
theorem dL_law_22 : decode cL_law 22 = .ok (.bipush 20, 2) := by decide +kernel
theorem dL_law_24 : decode cL_law 24 = .ok (.newarray .int, 2) := by decide +kernel
theorem dL_law_26 : decode cL_law 26 = .ok (.astore 5, 2) := by decide +kernel
theorem dL_law_28 : decode cL_law 28 = .ok (.iconst 4, 1) := by decide +kernel
theorem dL_law_29 : decode cL_law 29 = .ok (.newarray .int, 2) := by decide +kernel
theorem dL_law_31 : decode cL_law 31 = .ok (.astore 6, 2) := by decide +kernel
theorem dL_law_33 : decode cL_law 33 = .ok (.aload_n 2, 1) := by decide +kernel
theorem dL_law_34 : decode cL_law 34 = .ok (.iconst 0, 1) := by decide +kernel
theorem dL_law_35 : decode cL_law 35 = .ok (.iconst 4, 1) := by decide +kernel
theorem dL_law_36 : decode cL_law 36 = .ok (.iastore, 1) := by decide +kernel
theorem dL_law_37 : decode cL_law 37 = .ok (.aload_n 2, 1) := by decide +kernel
theorem dL_law_38 : decode cL_law 38 = .ok (.iconst 1, 1) := by decide +kernel
theorem dL_law_39 : decode cL_law 39 = .ok (.iconst 3, 1) := by decide +kernel
theorem dL_law_40 : decode cL_law 40 = .ok (.iastore, 1) := by decide +kernel
theorem dL_law_41 : decode cL_law 41 = .ok (.iconst 0, 1) := by decide +kernel
theorem dL_law_42 : decode cL_law 42 = .ok (.istore 7, 2) := by decide +kernel
theorem dL_law_44 : decode cL_law 44 = .ok (.iload 7, 2) := by decide +kernel
theorem dL_law_46 : decode cL_law 46 = .ok (.iconst 4, 1) := by decide +kernel
theorem dL_law_47 : decode cL_law 47 = .ok (.if_icmp .ge 14, 3) := by decide +kernel
theorem dL_law_50 : decode cL_law 50 = .ok (.aload_n 3, 1) := by decide +kernel
theorem dL_law_51 : decode cL_law 51 = .ok (.iload 7, 2) := by decide +kernel
theorem dL_law_53 : decode cL_law 53 = .ok (.iconst 1, 1) := by decide +kernel
theorem dL_law_54 : decode cL_law 54 = .ok (.iastore, 1) := by decide +kernel
theorem dL_law_55 : decode cL_law 55 = .ok (.iinc 7 1, 3) := by decide +kernel
theorem dL_law_58 : decode cL_law 58 = .ok (.goto (-14), 3) := by decide +kernel
theorem dL_law_61 : decode cL_law 61 = .ok (.iconst 0, 1) := by decide +kernel
theorem dL_law_62 : decode cL_law 62 = .ok (.istore 7, 2) := by decide +kernel
theorem dL_law_64 : decode cL_law 64 = .ok (.iload 7, 2) := by decide +kernel
theorem dL_law_66 : decode cL_law 66 = .ok (.bipush 40, 2) := by decide +kernel
theorem dL_law_68 : decode cL_law 68 = .ok (.if_icmp .ge 59, 3) := by decide +kernel
theorem dL_law_71 : decode cL_law 71 = .ok (.aload_n 1, 1) := by decide +kernel
theorem dL_law_72 : decode cL_law 72 = .ok (.aload_n 0, 1) := by decide +kernel
theorem dL_law_73 : decode cL_law 73 = .ok (.iconst 2, 1) := by decide +kernel
theorem dL_law_74 : decode cL_law 74 = .ok (.iload 7, 2) := by decide +kernel
theorem dL_law_76 : decode cL_law 76 = .ok (.imul, 1) := by decide +kernel
theorem dL_law_77 : decode cL_law 77 = .ok (.invokestatic 101, 3) := by decide +kernel
theorem dL_law_80 : decode cL_law 80 = .ok (.aload_n 0, 1) := by decide +kernel
theorem dL_law_81 : decode cL_law 81 = .ok (.iconst 2, 1) := by decide +kernel
theorem dL_law_82 : decode cL_law 82 = .ok (.iload 7, 2) := by decide +kernel
theorem dL_law_84 : decode cL_law 84 = .ok (.imul, 1) := by decide +kernel
theorem dL_law_85 : decode cL_law 85 = .ok (.iconst 1, 1) := by decide +kernel
theorem dL_law_86 : decode cL_law 86 = .ok (.iadd, 1) := by decide +kernel
theorem dL_law_87 : decode cL_law 87 = .ok (.invokestatic 101, 3) := by decide +kernel
theorem dL_law_90 : decode cL_law 90 = .ok (.aload_n 2, 1) := by decide +kernel
