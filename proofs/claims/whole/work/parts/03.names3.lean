theorem dX8_edges_3 : decode cX8_edges 3 = .ok (.istore_n 2, 1) := by decide +kernel
theorem dX8_edges_4 : decode cX8_edges 4 = .ok (.iload_n 2, 1) := by decide +kernel
theorem dX8_edges_5 : decode cX8_edges 5 = .ok (.aload_n 0, 1) := by decide +kernel
theorem dX8_edges_6 : decode cX8_edges 6 = .ok (.getfield 7, 3) := by decide +kernel
theorem dX8_edges_9 : decode cX8_edges 9 = .ok (.iconst 0, 1) := by decide +kernel
theorem dX8_edges_10 : decode cX8_edges 10 = .ok (.iaload, 1) := by decide +kernel
theorem dX8_edges_11 : decode cX8_edges 11 = .ok (.if_icmp .ge 24, 3) := by decide +kernel
theorem dX8_edges_14 : decode cX8_edges 14 = .ok (.iload_n 1, 1) := by decide +kernel
theorem dX8_edges_15 : decode cX8_edges 15 = .ok (.aload_n 0, 1) := by decide +kernel
theorem dX8_edges_16 : decode cX8_edges 16 = .ok (.getfield 7, 3) := by decide +kernel
theorem dX8_edges_19 : decode cX8_edges 19 = .ok (.bipush 10, 2) := by decide +kernel
theorem dX8_edges_21 : decode cX8_edges 21 = .ok (.iload_n 2, 1) := by decide +kernel
theorem dX8_edges_22 : decode cX8_edges 22 = .ok (.iadd, 1) := by decide +kernel
theorem dX8_edges_23 : decode cX8_edges 23 = .ok (.iaload, 1) := by decide +kernel
theorem dX8_edges_24 : decode cX8_edges 24 = .ok (.invokestatic 64, 3) := by decide +kernel
theorem dX8_edges_27 : decode cX8_edges 27 = .ok (.iadd, 1) := by decide +kernel
theorem dX8_edges_28 : decode cX8_edges 28 = .ok (.istore_n 1, 1) := by decide +kernel
theorem dX8_edges_29 : decode cX8_edges 29 = .ok (.iinc 2 1, 3) := by decide +kernel
theorem dX8_edges_32 : decode cX8_edges 32 = .ok (.goto (-28), 3) := by decide +kernel
theorem dX8_edges_35 : decode cX8_edges 35 = .ok (.iload_n 1, 1) := by decide +kernel
theorem dX8_edges_36 : decode cX8_edges 36 = .ok (.iconst 2, 1) := by decide +kernel
theorem dX8_edges_37 : decode cX8_edges 37 = .ok (.idiv, 1) := by decide +kernel
theorem dX8_edges_38 : decode cX8_edges 38 = .ok (.ireturn, 1) := by decide +kernel
theorem dX8_misfit_0 : decode cX8_misfit 0 = .ok (.iconst 0, 1) := by decide +kernel
theorem dX8_misfit_1 : decode cX8_misfit 1 = .ok (.istore_n 1, 1) := by decide +kernel
theorem dX8_misfit_2 : decode cX8_misfit 2 = .ok (.iload_n 1, 1) := by decide +kernel
theorem dX8_misfit_3 : decode cX8_misfit 3 = .ok (.bipush 8, 2) := by decide +kernel
theorem dX8_misfit_5 : decode cX8_misfit 5 = .ok (.aload_n 0, 1) := by decide +kernel
theorem dX8_misfit_6 : decode cX8_misfit 6 = .ok (.getfield 7, 3) := by decide +kernel
theorem dX8_misfit_9 : decode cX8_misfit 9 = .ok (.iconst 0, 1) := by decide +kernel
theorem dX8_misfit_10 : decode cX8_misfit 10 = .ok (.iaload, 1) := by decide +kernel
theorem dX8_misfit_11 : decode cX8_misfit 11 = .ok (.imul, 1) := by decide +kernel
theorem dX8_misfit_12 : decode cX8_misfit 12 = .ok (.if_icmp .ge 50, 3) := by decide +kernel
theorem dX8_misfit_15 : decode cX8_misfit 15 = .ok (.iload_n 1, 1) := by decide +kernel
theorem dX8_misfit_16 : decode cX8_misfit 16 = .ok (.bipush 8, 2) := by decide +kernel
theorem dX8_misfit_18 : decode cX8_misfit 18 = .ok (.idiv, 1) := by decide +kernel
theorem dX8_misfit_19 : decode cX8_misfit 19 = .ok (.istore_n 2, 1) := by decide +kernel
theorem dX8_misfit_20 : decode cX8_misfit 20 = .ok (.iload_n 1, 1) := by decide +kernel
theorem dX8_misfit_21 : decode cX8_misfit 21 = .ok (.bipush 8, 2) := by decide +kernel
theorem dX8_misfit_23 : decode cX8_misfit 23 = .ok (.irem, 1) := by decide +kernel
theorem dX8_misfit_24 : decode cX8_misfit 24 = .ok (.istore_n 3, 1) := by decide +kernel
theorem dX8_misfit_25 : decode cX8_misfit 25 = .ok (.iload_n 2, 1) := by decide +kernel
theorem dX8_misfit_26 : decode cX8_misfit 26 = .ok (.iload_n 3, 1) := by decide +kernel
theorem dX8_misfit_27 : decode cX8_misfit 27 = .ok (.if_icmp .ge 29, 3) := by decide +kernel
theorem dX8_misfit_30 : decode cX8_misfit 30 = .ok (.aload_n 0, 1) := by decide +kernel
theorem dX8_misfit_31 : decode cX8_misfit 31 = .ok (.iload_n 2, 1) := by decide +kernel
theorem dX8_misfit_32 : decode cX8_misfit 32 = .ok (.iload_n 3, 1) := by decide +kernel
theorem dX8_misfit_33 : decode cX8_misfit 33 = .ok (.invokevirtual 67, 3) := by decide +kernel
theorem dX8_misfit_36 : decode cX8_misfit 36 = .ok (.ifCond .eq 20, 3) := by decide +kernel
theorem dX8_misfit_39 : decode cX8_misfit 39 = .ok (.aload_n 0, 1) := by decide +kernel
theorem dX8_misfit_40 : decode cX8_misfit 40 = .ok (.iload_n 2, 1) := by decide +kernel
theorem dX8_misfit_41 : decode cX8_misfit 41 = .ok (.invokestatic 56, 3) := by decide +kernel
theorem dX8_misfit_44 : decode cX8_misfit 44 = .ok (.iload_n 3, 1) := by decide +kernel
theorem dX8_misfit_45 : decode cX8_misfit 45 = .ok (.invokestatic 56, 3) := by decide +kernel
theorem dX8_misfit_48 : decode cX8_misfit 48 = .ok (.invokevirtual 60, 3) := by decide +kernel
theorem dX8_misfit_51 : decode cX8_misfit 51 = .ok (.ifCond .eq 5, 3) := by decide +kernel
theorem dX8_misfit_54 : decode cX8_misfit 54 = .ok (.iload_n 1, 1) := by decide +kernel
theorem dX8_misfit_55 : decode cX8_misfit 55 = .ok (.ireturn, 1) := by decide +kernel
theorem dX8_misfit_56 : decode cX8_misfit 56 = .ok (.iinc 1 1, 3) := by decide +kernel
theorem dX8_misfit_59 : decode cX8_misfit 59 = .ok (.goto (-57), 3) := by decide +kernel
theorem dX8_misfit_62 : decode cX8_misfit 62 = .ok (.iconst (-1), 1) := by decide +kernel
theorem dX8_misfit_63 : decode cX8_misfit 63 = .ok (.ireturn, 1) := by decide +kernel
theorem dX8_misfits_0 : decode cX8_misfits 0 = .ok (.iconst 0, 1) := by decide +kernel
theorem dX8_misfits_1 : decode cX8_misfits 1 = .ok (.istore_n 1, 1) := by decide +kernel
theorem dX8_misfits_2 : decode cX8_misfits 2 = .ok (.iconst 0, 1) := by decide +kernel
theorem dX8_misfits_3 : decode cX8_misfits 3 = .ok (.istore_n 2, 1) := by decide +kernel
theorem dX8_misfits_4 : decode cX8_misfits 4 = .ok (.iload_n 2, 1) := by decide +kernel
theorem dX8_misfits_5 : decode cX8_misfits 5 = .ok (.bipush 8, 2) := by decide +kernel
theorem dX8_misfits_7 : decode cX8_misfits 7 = .ok (.aload_n 0, 1) := by decide +kernel
theorem dX8_misfits_8 : decode cX8_misfits 8 = .ok (.getfield 7, 3) := by decide +kernel
theorem dX8_misfits_11 : decode cX8_misfits 11 = .ok (.iconst 0, 1) := by decide +kernel
theorem dX8_misfits_12 : decode cX8_misfits 12 = .ok (.iaload, 1) := by decide +kernel
theorem dX8_misfits_13 : decode cX8_misfits 13 = .ok (.imul, 1) := by decide +kernel
theorem dX8_misfits_14 : decode cX8_misfits 14 = .ok (.if_icmp .ge 60, 3) := by decide +kernel
theorem dX8_misfits_17 : decode cX8_misfits 17 = .ok (.iload_n 2, 1) := by decide +kernel
theorem dX8_misfits_18 : decode cX8_misfits 18 = .ok (.bipush 8, 2) := by decide +kernel
theorem dX8_misfits_20 : decode cX8_misfits 20 = .ok (.idiv, 1) := by decide +kernel
theorem dX8_misfits_21 : decode cX8_misfits 21 = .ok (.istore_n 3, 1) := by decide +kernel
theorem dX8_misfits_22 : decode cX8_misfits 22 = .ok (.iload_n 2, 1) := by decide +kernel
theorem dX8_misfits_23 : decode cX8_misfits 23 = .ok (.bipush 8, 2) := by decide +kernel
theorem dX8_misfits_25 : decode cX8_misfits 25 = .ok (.irem, 1) := by decide +kernel
theorem dX8_misfits_26 : decode cX8_misfits 26 = .ok (.istore 4, 2) := by decide +kernel
theorem dX8_misfits_28 : decode cX8_misfits 28 = .ok (.iload_n 1, 1) := by decide +kernel
theorem dX8_misfits_29 : decode cX8_misfits 29 = .ok (.iload_n 3, 1) := by decide +kernel
theorem dX8_misfits_30 : decode cX8_misfits 30 = .ok (.iload 4, 2) := by decide +kernel
theorem dX8_misfits_32 : decode cX8_misfits 32 = .ok (.if_icmp .ge 33, 3) := by decide +kernel
theorem dX8_misfits_35 : decode cX8_misfits 35 = .ok (.aload_n 0, 1) := by decide +kernel
theorem dX8_misfits_36 : decode cX8_misfits 36 = .ok (.iload_n 3, 1) := by decide +kernel
theorem dX8_misfits_37 : decode cX8_misfits 37 = .ok (.iload 4, 2) := by decide +kernel
theorem dX8_misfits_39 : decode cX8_misfits 39 = .ok (.invokevirtual 67, 3) := by decide +kernel
theorem dX8_misfits_42 : decode cX8_misfits 42 = .ok (.ifCond .eq 23, 3) := by decide +kernel
theorem dX8_misfits_45 : decode cX8_misfits 45 = .ok (.aload_n 0, 1) := by decide +kernel
theorem dX8_misfits_46 : decode cX8_misfits 46 = .ok (.iload_n 3, 1) := by decide +kernel
theorem dX8_misfits_47 : decode cX8_misfits 47 = .ok (.invokestatic 56, 3) := by decide +kernel
theorem dX8_misfits_50 : decode cX8_misfits 50 = .ok (.iload 4, 2) := by decide +kernel
theorem dX8_misfits_52 : decode cX8_misfits 52 = .ok (.invokestatic 56, 3) := by decide +kernel
theorem dX8_misfits_55 : decode cX8_misfits 55 = .ok (.invokevirtual 60, 3) := by decide +kernel
theorem dX8_misfits_58 : decode cX8_misfits 58 = .ok (.ifCond .eq 7, 3) := by decide +kernel
theorem dX8_misfits_61 : decode cX8_misfits 61 = .ok (.iconst 1, 1) := by decide +kernel
theorem dX8_misfits_62 : decode cX8_misfits 62 = .ok (.goto 4, 3) := by decide +kernel
theorem dX8_misfits_65 : decode cX8_misfits 65 = .ok (.iconst 0, 1) := by decide +kernel
theorem dX8_misfits_66 : decode cX8_misfits 66 = .ok (.iadd, 1) := by decide +kernel
theorem dX8_misfits_67 : decode cX8_misfits 67 = .ok (.istore_n 1, 1) := by decide +kernel
theorem dX8_misfits_68 : decode cX8_misfits 68 = .ok (.iinc 2 1, 3) := by decide +kernel
theorem dX8_misfits_71 : decode cX8_misfits 71 = .ok (.goto (-67), 3) := by decide +kernel
theorem dX8_misfits_74 : decode cX8_misfits 74 = .ok (.iload_n 1, 1) := by decide +kernel
theorem dX8_misfits_75 : decode cX8_misfits 75 = .ok (.ireturn, 1) := by decide +kernel
theorem dX8_unreached_0 : decode cX8_unreached 0 = .ok (.iconst 0, 1) := by decide +kernel
theorem dX8_unreached_1 : decode cX8_unreached 1 = .ok (.istore_n 1, 1) := by decide +kernel
theorem dX8_unreached_2 : decode cX8_unreached 2 = .ok (.iload_n 1, 1) := by decide +kernel
theorem dX8_unreached_3 : decode cX8_unreached 3 = .ok (.aload_n 0, 1) := by decide +kernel
theorem dX8_unreached_4 : decode cX8_unreached 4 = .ok (.getfield 7, 3) := by decide +kernel
theorem dX8_unreached_7 : decode cX8_unreached 7 = .ok (.iconst 0, 1) := by decide +kernel
theorem dX8_unreached_8 : decode cX8_unreached 8 = .ok (.iaload, 1) := by decide +kernel
theorem dX8_unreached_9 : decode cX8_unreached 9 = .ok (.if_icmp .ge 27, 3) := by decide +kernel
theorem dX8_unreached_12 : decode cX8_unreached 12 = .ok (.aload_n 0, 1) := by decide +kernel
theorem dX8_unreached_13 : decode cX8_unreached 13 = .ok (.iload_n 1, 1) := by decide +kernel
theorem dX8_unreached_14 : decode cX8_unreached 14 = .ok (.invokevirtual 70, 3) := by decide +kernel
theorem dX8_unreached_17 : decode cX8_unreached 17 = .ok (.ifCond .le 13, 3) := by decide +kernel
theorem dX8_unreached_20 : decode cX8_unreached 20 = .ok (.aload_n 0, 1) := by decide +kernel
theorem dX8_unreached_21 : decode cX8_unreached 21 = .ok (.iload_n 1, 1) := by decide +kernel
theorem dX8_unreached_22 : decode cX8_unreached 22 = .ok (.invokevirtual 73, 3) := by decide +kernel
theorem dX8_unreached_25 : decode cX8_unreached 25 = .ok (.ifCond .ne 5, 3) := by decide +kernel
theorem dX8_unreached_28 : decode cX8_unreached 28 = .ok (.iload_n 1, 1) := by decide +kernel
theorem dX8_unreached_29 : decode cX8_unreached 29 = .ok (.ireturn, 1) := by decide +kernel
theorem dX8_unreached_30 : decode cX8_unreached 30 = .ok (.iinc 1 1, 3) := by decide +kernel
theorem dX8_unreached_33 : decode cX8_unreached 33 = .ok (.goto (-31), 3) := by decide +kernel
theorem dX8_unreached_36 : decode cX8_unreached 36 = .ok (.iconst (-1), 1) := by decide +kernel
theorem dX8_unreached_37 : decode cX8_unreached 37 = .ok (.ireturn, 1) := by decide +kernel
theorem dX8_reason_0 : decode cX8_reason 0 = .ok (.aload_n 0, 1) := by decide +kernel
theorem dX8_reason_1 : decode cX8_reason 1 = .ok (.invokevirtual 76, 3) := by decide +kernel
theorem dX8_reason_4 : decode cX8_reason 4 = .ok (.iconst (-1), 1) := by decide +kernel
theorem dX8_reason_5 : decode cX8_reason 5 = .ok (.if_icmp .eq 7, 3) := by decide +kernel
theorem dX8_reason_8 : decode cX8_reason 8 = .ok (.iconst 1, 1) := by decide +kernel
theorem dX8_reason_9 : decode cX8_reason 9 = .ok (.goto 16, 3) := by decide +kernel
theorem dX8_reason_12 : decode cX8_reason 12 = .ok (.aload_n 0, 1) := by decide +kernel
theorem dX8_reason_13 : decode cX8_reason 13 = .ok (.invokevirtual 80, 3) := by decide +kernel
theorem dX8_reason_16 : decode cX8_reason 16 = .ok (.iconst (-1), 1) := by decide +kernel
theorem dX8_reason_17 : decode cX8_reason 17 = .ok (.if_icmp .eq 7, 3) := by decide +kernel
theorem dX8_reason_20 : decode cX8_reason 20 = .ok (.iconst 2, 1) := by decide +kernel
theorem dX8_reason_21 : decode cX8_reason 21 = .ok (.goto 4, 3) := by decide +kernel
theorem dX8_reason_24 : decode cX8_reason 24 = .ok (.iconst 0, 1) := by decide +kernel
theorem dX8_reason_25 : decode cX8_reason 25 = .ok (.ireturn, 1) := by decide +kernel
theorem dX8_common_0 : decode cX8_common 0 = .ok (.lload_n 0, 1) := by decide +kernel
theorem dX8_common_1 : decode cX8_common 1 = .ok (.lstore 4, 2) := by decide +kernel
theorem dX8_common_3 : decode cX8_common 3 = .ok (.lload_n 2, 1) := by decide +kernel
theorem dX8_common_4 : decode cX8_common 4 = .ok (.lstore 6, 2) := by decide +kernel
theorem dX8_common_6 : decode cX8_common 6 = .ok (.lload 6, 2) := by decide +kernel
theorem dX8_common_8 : decode cX8_common 8 = .ok (.lconst 0, 1) := by decide +kernel
theorem dX8_common_9 : decode cX8_common 9 = .ok (.lcmp, 1) := by decide +kernel
theorem dX8_common_10 : decode cX8_common 10 = .ok (.ifCond .le 21, 3) := by decide +kernel
theorem dX8_common_13 : decode cX8_common 13 = .ok (.lload 4, 2) := by decide +kernel
theorem dX8_common_15 : decode cX8_common 15 = .ok (.lload 6, 2) := by decide +kernel
theorem dX8_common_17 : decode cX8_common 17 = .ok (.lrem, 1) := by decide +kernel
theorem dX8_common_18 : decode cX8_common 18 = .ok (.lstore 8, 2) := by decide +kernel
theorem dX8_common_20 : decode cX8_common 20 = .ok (.lload 6, 2) := by decide +kernel
theorem dX8_common_22 : decode cX8_common 22 = .ok (.lstore 4, 2) := by decide +kernel
theorem dX8_common_24 : decode cX8_common 24 = .ok (.lload 8, 2) := by decide +kernel
theorem dX8_common_26 : decode cX8_common 26 = .ok (.lstore 6, 2) := by decide +kernel
theorem dX8_common_28 : decode cX8_common 28 = .ok (.goto (-22), 3) := by decide +kernel
theorem dX8_common_31 : decode cX8_common 31 = .ok (.lload 4, 2) := by decide +kernel
theorem dX8_common_33 : decode cX8_common 33 = .ok (.lreturn, 1) := by decide +kernel
theorem dX8_layBound_0 : decode cX8_layBound 0 = .ok (.aload_n 0, 1) := by decide +kernel
theorem dX8_layBound_1 : decode cX8_layBound 1 = .ok (.lconst 0, 1) := by decide +kernel
theorem dX8_layBound_2 : decode cX8_layBound 2 = .ok (.putfield 83, 3) := by decide +kernel
theorem dX8_layBound_5 : decode cX8_layBound 5 = .ok (.aload_n 0, 1) := by decide +kernel
theorem dX8_layBound_6 : decode cX8_layBound 6 = .ok (.lconst 1, 1) := by decide +kernel
theorem dX8_layBound_7 : decode cX8_layBound 7 = .ok (.putfield 87, 3) := by decide +kernel
theorem dX8_layBound_10 : decode cX8_layBound 10 = .ok (.aload_n 0, 1) := by decide +kernel
theorem dX8_layBound_11 : decode cX8_layBound 11 = .ok (.iconst (-1), 1) := by decide +kernel
theorem dX8_layBound_12 : decode cX8_layBound 12 = .ok (.putfield 90, 3) := by decide +kernel
theorem dX8_layBound_15 : decode cX8_layBound 15 = .ok (.iconst 0, 1) := by decide +kernel
theorem dX8_layBound_16 : decode cX8_layBound 16 = .ok (.istore_n 1, 1) := by decide +kernel
theorem dX8_layBound_17 : decode cX8_layBound 17 = .ok (.iload_n 1, 1) := by decide +kernel
theorem dX8_layBound_18 : decode cX8_layBound 18 = .ok (.aload_n 0, 1) := by decide +kernel
theorem dX8_layBound_19 : decode cX8_layBound 19 = .ok (.getfield 7, 3) := by decide +kernel
theorem dX8_layBound_22 : decode cX8_layBound 22 = .ok (.iconst 0, 1) := by decide +kernel
theorem dX8_layBound_23 : decode cX8_layBound 23 = .ok (.iaload, 1) := by decide +kernel
theorem dX8_layBound_24 : decode cX8_layBound 24 = .ok (.if_icmp .ge 104, 3) := by decide +kernel
theorem dX8_layBound_27 : decode cX8_layBound 27 = .ok (.aload_n 0, 1) := by decide +kernel
theorem dX8_layBound_28 : decode cX8_layBound 28 = .ok (.iload_n 1, 1) := by decide +kernel
theorem dX8_layBound_29 : decode cX8_layBound 29 = .ok (.invokevirtual 70, 3) := by decide +kernel
theorem dX8_layBound_32 : decode cX8_layBound 32 = .ok (.ifCond .le 90, 3) := by decide +kernel
theorem dX8_layBound_35 : decode cX8_layBound 35 = .ok (.aload_n 0, 1) := by decide +kernel
theorem dX8_layBound_36 : decode cX8_layBound 36 = .ok (.iload_n 1, 1) := by decide +kernel
theorem dX8_layBound_37 : decode cX8_layBound 37 = .ok (.invokevirtual 70, 3) := by decide +kernel
theorem dX8_layBound_40 : decode cX8_layBound 40 = .ok (.i2l, 1) := by decide +kernel
theorem dX8_layBound_41 : decode cX8_layBound 41 = .ok (.aload_n 0, 1) := by decide +kernel
theorem dX8_layBound_42 : decode cX8_layBound 42 = .ok (.bipush 50, 2) := by decide +kernel
theorem dX8_layBound_44 : decode cX8_layBound 44 = .ok (.bipush 50, 2) := by decide +kernel
theorem dX8_layBound_46 : decode cX8_layBound 46 = .ok (.invokevirtual 60, 3) := by decide +kernel
theorem dX8_layBound_49 : decode cX8_layBound 49 = .ok (.i2l, 1) := by decide +kernel
theorem dX8_layBound_50 : decode cX8_layBound 50 = .ok (.lmul, 1) := by decide +kernel
theorem dX8_layBound_51 : decode cX8_layBound 51 = .ok (.aload_n 0, 1) := by decide +kernel
theorem dX8_layBound_52 : decode cX8_layBound 52 = .ok (.iload_n 1, 1) := by decide +kernel
theorem dX8_layBound_53 : decode cX8_layBound 53 = .ok (.invokestatic 56, 3) := by decide +kernel
theorem dX8_layBound_56 : decode cX8_layBound 56 = .ok (.iload_n 1, 1) := by decide +kernel
theorem dX8_layBound_57 : decode cX8_layBound 57 = .ok (.invokestatic 56, 3) := by decide +kernel
theorem dX8_layBound_60 : decode cX8_layBound 60 = .ok (.invokevirtual 60, 3) := by decide +kernel
theorem dX8_layBound_63 : decode cX8_layBound 63 = .ok (.i2l, 1) := by decide +kernel
theorem dX8_layBound_64 : decode cX8_layBound 64 = .ok (.lmul, 1) := by decide +kernel
theorem dX8_layBound_65 : decode cX8_layBound 65 = .ok (.lstore_n 2, 1) := by decide +kernel
theorem dX8_layBound_66 : decode cX8_layBound 66 = .ok (.aload_n 0, 1) := by decide +kernel
theorem dX8_layBound_67 : decode cX8_layBound 67 = .ok (.iload_n 1, 1) := by decide +kernel
theorem dX8_layBound_68 : decode cX8_layBound 68 = .ok (.invokevirtual 73, 3) := by decide +kernel
theorem dX8_layBound_71 : decode cX8_layBound 71 = .ok (.i2l, 1) := by decide +kernel
theorem dX8_layBound_72 : decode cX8_layBound 72 = .ok (.aload_n 0, 1) := by decide +kernel
theorem dX8_layBound_73 : decode cX8_layBound 73 = .ok (.iload_n 1, 1) := by decide +kernel
theorem dX8_layBound_74 : decode cX8_layBound 74 = .ok (.invokevirtual 73, 3) := by decide +kernel
theorem dX8_layBound_77 : decode cX8_layBound 77 = .ok (.i2l, 1) := by decide +kernel
theorem dX8_layBound_78 : decode cX8_layBound 78 = .ok (.lmul, 1) := by decide +kernel
theorem dX8_layBound_79 : decode cX8_layBound 79 = .ok (.lstore 4, 2) := by decide +kernel
theorem dX8_layBound_81 : decode cX8_layBound 81 = .ok (.aload_n 0, 1) := by decide +kernel
theorem dX8_layBound_82 : decode cX8_layBound 82 = .ok (.getfield 90, 3) := by decide +kernel
theorem dX8_layBound_85 : decode cX8_layBound 85 = .ok (.iconst (-1), 1) := by decide +kernel
theorem dX8_layBound_86 : decode cX8_layBound 86 = .ok (.if_icmp .eq 20, 3) := by decide +kernel
theorem dX8_layBound_89 : decode cX8_layBound 89 = .ok (.lload_n 2, 1) := by decide +kernel
theorem dX8_layBound_90 : decode cX8_layBound 90 = .ok (.aload_n 0, 1) := by decide +kernel
theorem dX8_layBound_91 : decode cX8_layBound 91 = .ok (.getfield 87, 3) := by decide +kernel
theorem dX8_layBound_94 : decode cX8_layBound 94 = .ok (.lmul, 1) := by decide +kernel
theorem dX8_layBound_95 : decode cX8_layBound 95 = .ok (.aload_n 0, 1) := by decide +kernel
theorem dX8_layBound_96 : decode cX8_layBound 96 = .ok (.getfield 83, 3) := by decide +kernel
theorem dX8_layBound_99 : decode cX8_layBound 99 = .ok (.lload 4, 2) := by decide +kernel
theorem dX8_layBound_101 : decode cX8_layBound 101 = .ok (.lmul, 1) := by decide +kernel
theorem dX8_layBound_102 : decode cX8_layBound 102 = .ok (.lcmp, 1) := by decide +kernel
theorem dX8_layBound_103 : decode cX8_layBound 103 = .ok (.ifCond .le 19, 3) := by decide +kernel
theorem dX8_layBound_106 : decode cX8_layBound 106 = .ok (.aload_n 0, 1) := by decide +kernel
theorem dX8_layBound_107 : decode cX8_layBound 107 = .ok (.lload_n 2, 1) := by decide +kernel
theorem dX8_layBound_108 : decode cX8_layBound 108 = .ok (.putfield 83, 3) := by decide +kernel
theorem dX8_layBound_111 : decode cX8_layBound 111 = .ok (.aload_n 0, 1) := by decide +kernel
theorem dX8_layBound_112 : decode cX8_layBound 112 = .ok (.lload 4, 2) := by decide +kernel
theorem dX8_layBound_114 : decode cX8_layBound 114 = .ok (.putfield 87, 3) := by decide +kernel
theorem dX8_layBound_117 : decode cX8_layBound 117 = .ok (.aload_n 0, 1) := by decide +kernel
theorem dX8_layBound_118 : decode cX8_layBound 118 = .ok (.iload_n 1, 1) := by decide +kernel
theorem dX8_layBound_119 : decode cX8_layBound 119 = .ok (.putfield 90, 3) := by decide +kernel
theorem dX8_layBound_122 : decode cX8_layBound 122 = .ok (.iinc 1 1, 3) := by decide +kernel
theorem dX8_layBound_125 : decode cX8_layBound 125 = .ok (.goto (-108), 3) := by decide +kernel
theorem dX8_layBound_128 : decode cX8_layBound 128 = .ok (.aload_n 0, 1) := by decide +kernel
theorem dX8_layBound_129 : decode cX8_layBound 129 = .ok (.getfield 83, 3) := by decide +kernel
theorem dX8_layBound_132 : decode cX8_layBound 132 = .ok (.aload_n 0, 1) := by decide +kernel
theorem dX8_layBound_133 : decode cX8_layBound 133 = .ok (.getfield 87, 3) := by decide +kernel
theorem dX8_layBound_136 : decode cX8_layBound 136 = .ok (.invokestatic 93, 3) := by decide +kernel
theorem dX8_layBound_139 : decode cX8_layBound 139 = .ok (.lstore_n 1, 1) := by decide +kernel
theorem dX8_layBound_140 : decode cX8_layBound 140 = .ok (.aload_n 0, 1) := by decide +kernel
theorem dX8_layBound_141 : decode cX8_layBound 141 = .ok (.dup, 1) := by decide +kernel
theorem dX8_layBound_142 : decode cX8_layBound 142 = .ok (.getfield 83, 3) := by decide +kernel
theorem dX8_layBound_145 : decode cX8_layBound 145 = .ok (.lload_n 1, 1) := by decide +kernel
theorem dX8_layBound_146 : decode cX8_layBound 146 = .ok (.ldiv, 1) := by decide +kernel
theorem dX8_layBound_147 : decode cX8_layBound 147 = .ok (.putfield 83, 3) := by decide +kernel
theorem dX8_layBound_150 : decode cX8_layBound 150 = .ok (.aload_n 0, 1) := by decide +kernel
theorem dX8_layBound_151 : decode cX8_layBound 151 = .ok (.dup, 1) := by decide +kernel
theorem dX8_layBound_152 : decode cX8_layBound 152 = .ok (.getfield 87, 3) := by decide +kernel
theorem dX8_layBound_155 : decode cX8_layBound 155 = .ok (.lload_n 1, 1) := by decide +kernel
theorem dX8_layBound_156 : decode cX8_layBound 156 = .ok (.ldiv, 1) := by decide +kernel
theorem dX8_layBound_157 : decode cX8_layBound 157 = .ok (.putfield 87, 3) := by decide +kernel
theorem dX8_layBound_160 : decode cX8_layBound 160 = .ok (.return_, 1) := by decide +kernel
theorem dX8_isClique_0 : decode cX8_isClique 0 = .ok (.iconst 1, 1) := by decide +kernel
theorem dX8_isClique_1 : decode cX8_isClique 1 = .ok (.istore_n 2, 1) := by decide +kernel
theorem dX8_isClique_2 : decode cX8_isClique 2 = .ok (.iconst 0, 1) := by decide +kernel
theorem dX8_isClique_3 : decode cX8_isClique 3 = .ok (.istore_n 3, 1) := by decide +kernel
theorem dX8_isClique_4 : decode cX8_isClique 4 = .ok (.iload_n 3, 1) := by decide +kernel
theorem dX8_isClique_5 : decode cX8_isClique 5 = .ok (.aload_n 0, 1) := by decide +kernel
theorem dX8_isClique_6 : decode cX8_isClique 6 = .ok (.getfield 7, 3) := by decide +kernel
theorem dX8_isClique_9 : decode cX8_isClique 9 = .ok (.iconst 0, 1) := by decide +kernel
theorem dX8_isClique_10 : decode cX8_isClique 10 = .ok (.iaload, 1) := by decide +kernel
theorem dX8_isClique_11 : decode cX8_isClique 11 = .ok (.if_icmp .ge 49, 3) := by decide +kernel
theorem dX8_isClique_14 : decode cX8_isClique 14 = .ok (.iload_n 2, 1) := by decide +kernel
theorem dX8_isClique_15 : decode cX8_isClique 15 = .ok (.ifCond .eq 37, 3) := by decide +kernel
theorem dX8_isClique_18 : decode cX8_isClique 18 = .ok (.iload_n 1, 1) := by decide +kernel
theorem dX8_isClique_19 : decode cX8_isClique 19 = .ok (.iload_n 3, 1) := by decide +kernel
theorem dX8_isClique_20 : decode cX8_isClique 20 = .ok (.invokestatic 52, 3) := by decide +kernel
theorem dX8_isClique_23 : decode cX8_isClique 23 = .ok (.ifCond .eq 25, 3) := by decide +kernel
theorem dX8_isClique_26 : decode cX8_isClique 26 = .ok (.iload_n 1, 1) := by decide +kernel
theorem dX8_isClique_27 : decode cX8_isClique 27 = .ok (.aload_n 0, 1) := by decide +kernel
theorem dX8_isClique_28 : decode cX8_isClique 28 = .ok (.getfield 7, 3) := by decide +kernel
theorem dX8_isClique_31 : decode cX8_isClique 31 = .ok (.bipush 10, 2) := by decide +kernel
theorem dX8_isClique_33 : decode cX8_isClique 33 = .ok (.iload_n 3, 1) := by decide +kernel
theorem dX8_isClique_34 : decode cX8_isClique 34 = .ok (.iadd, 1) := by decide +kernel
theorem dX8_isClique_35 : decode cX8_isClique 35 = .ok (.iaload, 1) := by decide +kernel
theorem dX8_isClique_36 : decode cX8_isClique 36 = .ok (.iconst (-1), 1) := by decide +kernel
theorem dX8_isClique_37 : decode cX8_isClique 37 = .ok (.ixor, 1) := by decide +kernel
theorem dX8_isClique_38 : decode cX8_isClique 38 = .ok (.iand, 1) := by decide +kernel
theorem dX8_isClique_39 : decode cX8_isClique 39 = .ok (.iconst 1, 1) := by decide +kernel
theorem dX8_isClique_40 : decode cX8_isClique 40 = .ok (.iload_n 3, 1) := by decide +kernel
theorem dX8_isClique_41 : decode cX8_isClique 41 = .ok (.ishl, 1) := by decide +kernel
theorem dX8_isClique_42 : decode cX8_isClique 42 = .ok (.iconst (-1), 1) := by decide +kernel
theorem dX8_isClique_43 : decode cX8_isClique 43 = .ok (.ixor, 1) := by decide +kernel
theorem dX8_isClique_44 : decode cX8_isClique 44 = .ok (.iand, 1) := by decide +kernel
theorem dX8_isClique_45 : decode cX8_isClique 45 = .ok (.ifCond .ne 7, 3) := by decide +kernel
theorem dX8_isClique_48 : decode cX8_isClique 48 = .ok (.iconst 1, 1) := by decide +kernel
theorem dX8_isClique_49 : decode cX8_isClique 49 = .ok (.goto 4, 3) := by decide +kernel
theorem dX8_isClique_52 : decode cX8_isClique 52 = .ok (.iconst 0, 1) := by decide +kernel
theorem dX8_isClique_53 : decode cX8_isClique 53 = .ok (.istore_n 2, 1) := by decide +kernel
theorem dX8_isClique_54 : decode cX8_isClique 54 = .ok (.iinc 3 1, 3) := by decide +kernel
theorem dX8_isClique_57 : decode cX8_isClique 57 = .ok (.goto (-53), 3) := by decide +kernel
theorem dX8_isClique_60 : decode cX8_isClique 60 = .ok (.iload_n 2, 1) := by decide +kernel
theorem dX8_isClique_61 : decode cX8_isClique 61 = .ok (.ireturn, 1) := by decide +kernel
theorem dX8_weightOf_0 : decode cX8_weightOf 0 = .ok (.iconst 0, 1) := by decide +kernel
theorem dX8_weightOf_1 : decode cX8_weightOf 1 = .ok (.istore_n 2, 1) := by decide +kernel
theorem dX8_weightOf_2 : decode cX8_weightOf 2 = .ok (.iconst 0, 1) := by decide +kernel
theorem dX8_weightOf_3 : decode cX8_weightOf 3 = .ok (.istore_n 3, 1) := by decide +kernel
theorem dX8_weightOf_4 : decode cX8_weightOf 4 = .ok (.iload_n 3, 1) := by decide +kernel
theorem dX8_weightOf_5 : decode cX8_weightOf 5 = .ok (.aload_n 0, 1) := by decide +kernel
theorem dX8_weightOf_6 : decode cX8_weightOf 6 = .ok (.getfield 7, 3) := by decide +kernel
theorem dX8_weightOf_9 : decode cX8_weightOf 9 = .ok (.iconst 0, 1) := by decide +kernel
theorem dX8_weightOf_10 : decode cX8_weightOf 10 = .ok (.iaload, 1) := by decide +kernel
theorem dX8_weightOf_11 : decode cX8_weightOf 11 = .ok (.if_icmp .ge 29, 3) := by decide +kernel
theorem dX8_weightOf_14 : decode cX8_weightOf 14 = .ok (.iload_n 2, 1) := by decide +kernel
theorem dX8_weightOf_15 : decode cX8_weightOf 15 = .ok (.iload_n 1, 1) := by decide +kernel
theorem dX8_weightOf_16 : decode cX8_weightOf 16 = .ok (.iload_n 3, 1) := by decide +kernel
theorem dX8_weightOf_17 : decode cX8_weightOf 17 = .ok (.invokestatic 52, 3) := by decide +kernel
theorem dX8_weightOf_20 : decode cX8_weightOf 20 = .ok (.ifCond .eq 11, 3) := by decide +kernel
theorem dX8_weightOf_23 : decode cX8_weightOf 23 = .ok (.aload_n 0, 1) := by decide +kernel
theorem dX8_weightOf_24 : decode cX8_weightOf 24 = .ok (.iload_n 3, 1) := by decide +kernel
theorem dX8_weightOf_25 : decode cX8_weightOf 25 = .ok (.invokevirtual 70, 3) := by decide +kernel
theorem dX8_weightOf_28 : decode cX8_weightOf 28 = .ok (.goto 4, 3) := by decide +kernel
theorem dX8_weightOf_31 : decode cX8_weightOf 31 = .ok (.iconst 0, 1) := by decide +kernel
theorem dX8_weightOf_32 : decode cX8_weightOf 32 = .ok (.iadd, 1) := by decide +kernel
theorem dX8_weightOf_33 : decode cX8_weightOf 33 = .ok (.istore_n 2, 1) := by decide +kernel
theorem dX8_weightOf_34 : decode cX8_weightOf 34 = .ok (.iinc 3 1, 3) := by decide +kernel
theorem dX8_weightOf_37 : decode cX8_weightOf 37 = .ok (.goto (-33), 3) := by decide +kernel
theorem dX8_weightOf_40 : decode cX8_weightOf 40 = .ok (.iload_n 2, 1) := by decide +kernel
theorem dX8_weightOf_41 : decode cX8_weightOf 41 = .ok (.ireturn, 1) := by decide +kernel
theorem dX8_heaviest_0 : decode cX8_heaviest 0 = .ok (.iconst (-1), 1) := by decide +kernel
theorem dX8_heaviest_1 : decode cX8_heaviest 1 = .ok (.istore_n 2, 1) := by decide +kernel
theorem dX8_heaviest_2 : decode cX8_heaviest 2 = .ok (.iconst 0, 1) := by decide +kernel
theorem dX8_heaviest_3 : decode cX8_heaviest 3 = .ok (.istore_n 3, 1) := by decide +kernel
theorem dX8_heaviest_4 : decode cX8_heaviest 4 = .ok (.iload_n 3, 1) := by decide +kernel
theorem dX8_heaviest_5 : decode cX8_heaviest 5 = .ok (.iconst 1, 1) := by decide +kernel
theorem dX8_heaviest_6 : decode cX8_heaviest 6 = .ok (.aload_n 0, 1) := by decide +kernel
theorem dX8_heaviest_7 : decode cX8_heaviest 7 = .ok (.getfield 7, 3) := by decide +kernel
theorem dX8_heaviest_10 : decode cX8_heaviest 10 = .ok (.iconst 0, 1) := by decide +kernel
theorem dX8_heaviest_11 : decode cX8_heaviest 11 = .ok (.iaload, 1) := by decide +kernel
theorem dX8_heaviest_12 : decode cX8_heaviest 12 = .ok (.ishl, 1) := by decide +kernel
theorem dX8_heaviest_13 : decode cX8_heaviest 13 = .ok (.if_icmp .ge 61, 3) := by decide +kernel
theorem dX8_heaviest_16 : decode cX8_heaviest 16 = .ok (.iload_n 1, 1) := by decide +kernel
theorem dX8_heaviest_17 : decode cX8_heaviest 17 = .ok (.iload_n 3, 1) := by decide +kernel
theorem dX8_heaviest_18 : decode cX8_heaviest 18 = .ok (.iconst (-1), 1) := by decide +kernel
theorem dX8_heaviest_19 : decode cX8_heaviest 19 = .ok (.ixor, 1) := by decide +kernel
theorem dX8_heaviest_20 : decode cX8_heaviest 20 = .ok (.iand, 1) := by decide +kernel
theorem dX8_heaviest_21 : decode cX8_heaviest 21 = .ok (.ifCond .ne 15, 3) := by decide +kernel
theorem dX8_heaviest_24 : decode cX8_heaviest 24 = .ok (.aload_n 0, 1) := by decide +kernel
theorem dX8_heaviest_25 : decode cX8_heaviest 25 = .ok (.iload_n 3, 1) := by decide +kernel
theorem dX8_heaviest_26 : decode cX8_heaviest 26 = .ok (.invokevirtual 97, 3) := by decide +kernel
theorem dX8_heaviest_29 : decode cX8_heaviest 29 = .ok (.ifCond .eq 7, 3) := by decide +kernel
theorem dX8_heaviest_32 : decode cX8_heaviest 32 = .ok (.iconst 1, 1) := by decide +kernel
theorem dX8_heaviest_33 : decode cX8_heaviest 33 = .ok (.goto 4, 3) := by decide +kernel
theorem dX8_heaviest_36 : decode cX8_heaviest 36 = .ok (.iconst 0, 1) := by decide +kernel
theorem dX8_heaviest_37 : decode cX8_heaviest 37 = .ok (.istore 4, 2) := by decide +kernel
theorem dX8_heaviest_39 : decode cX8_heaviest 39 = .ok (.iload 4, 2) := by decide +kernel
theorem dX8_heaviest_41 : decode cX8_heaviest 41 = .ok (.ifCond .eq 25, 3) := by decide +kernel
theorem dX8_heaviest_44 : decode cX8_heaviest 44 = .ok (.iload_n 2, 1) := by decide +kernel
theorem dX8_heaviest_45 : decode cX8_heaviest 45 = .ok (.iconst (-1), 1) := by decide +kernel
theorem dX8_heaviest_46 : decode cX8_heaviest 46 = .ok (.if_icmp .eq 16, 3) := by decide +kernel
theorem dX8_heaviest_49 : decode cX8_heaviest 49 = .ok (.aload_n 0, 1) := by decide +kernel
theorem dX8_heaviest_50 : decode cX8_heaviest 50 = .ok (.iload_n 3, 1) := by decide +kernel
theorem dX8_heaviest_51 : decode cX8_heaviest 51 = .ok (.invokevirtual 101, 3) := by decide +kernel
theorem dX8_heaviest_54 : decode cX8_heaviest 54 = .ok (.aload_n 0, 1) := by decide +kernel
theorem dX8_heaviest_55 : decode cX8_heaviest 55 = .ok (.iload_n 2, 1) := by decide +kernel
theorem dX8_heaviest_56 : decode cX8_heaviest 56 = .ok (.invokevirtual 101, 3) := by decide +kernel
theorem dX8_heaviest_59 : decode cX8_heaviest 59 = .ok (.if_icmp .le 7, 3) := by decide +kernel
theorem dX8_heaviest_62 : decode cX8_heaviest 62 = .ok (.iload_n 3, 1) := by decide +kernel
theorem dX8_heaviest_63 : decode cX8_heaviest 63 = .ok (.goto 4, 3) := by decide +kernel
theorem dX8_heaviest_66 : decode cX8_heaviest 66 = .ok (.iload_n 2, 1) := by decide +kernel
theorem dX8_heaviest_67 : decode cX8_heaviest 67 = .ok (.istore_n 2, 1) := by decide +kernel
theorem dX8_heaviest_68 : decode cX8_heaviest 68 = .ok (.iinc 3 1, 3) := by decide +kernel
theorem dX8_heaviest_71 : decode cX8_heaviest 71 = .ok (.goto (-67), 3) := by decide +kernel
theorem dX8_heaviest_74 : decode cX8_heaviest 74 = .ok (.iload_n 2, 1) := by decide +kernel
theorem dX8_heaviest_75 : decode cX8_heaviest 75 = .ok (.ireturn, 1) := by decide +kernel
theorem dX8_mostVertices_0 : decode cX8_mostVertices 0 = .ok (.iconst 0, 1) := by decide +kernel
theorem dX8_mostVertices_1 : decode cX8_mostVertices 1 = .ok (.istore_n 1, 1) := by decide +kernel
theorem dX8_mostVertices_2 : decode cX8_mostVertices 2 = .ok (.iconst 0, 1) := by decide +kernel
theorem dX8_mostVertices_3 : decode cX8_mostVertices 3 = .ok (.istore_n 2, 1) := by decide +kernel
theorem dX8_mostVertices_4 : decode cX8_mostVertices 4 = .ok (.iload_n 2, 1) := by decide +kernel
theorem dX8_mostVertices_5 : decode cX8_mostVertices 5 = .ok (.iconst 1, 1) := by decide +kernel
theorem dX8_mostVertices_6 : decode cX8_mostVertices 6 = .ok (.aload_n 0, 1) := by decide +kernel
theorem dX8_mostVertices_7 : decode cX8_mostVertices 7 = .ok (.getfield 7, 3) := by decide +kernel
theorem dX8_mostVertices_10 : decode cX8_mostVertices 10 = .ok (.iconst 0, 1) := by decide +kernel
theorem dX8_mostVertices_11 : decode cX8_mostVertices 11 = .ok (.iaload, 1) := by decide +kernel
theorem dX8_mostVertices_12 : decode cX8_mostVertices 12 = .ok (.ishl, 1) := by decide +kernel
theorem dX8_mostVertices_13 : decode cX8_mostVertices 13 = .ok (.if_icmp .ge 34, 3) := by decide +kernel
theorem dX8_mostVertices_16 : decode cX8_mostVertices 16 = .ok (.iload_n 2, 1) := by decide +kernel
theorem dX8_mostVertices_17 : decode cX8_mostVertices 17 = .ok (.invokestatic 64, 3) := by decide +kernel
theorem dX8_mostVertices_20 : decode cX8_mostVertices 20 = .ok (.iload_n 1, 1) := by decide +kernel
theorem dX8_mostVertices_21 : decode cX8_mostVertices 21 = .ok (.if_icmp .le 18, 3) := by decide +kernel
theorem dX8_mostVertices_24 : decode cX8_mostVertices 24 = .ok (.aload_n 0, 1) := by decide +kernel
theorem dX8_mostVertices_25 : decode cX8_mostVertices 25 = .ok (.iload_n 2, 1) := by decide +kernel
theorem dX8_mostVertices_26 : decode cX8_mostVertices 26 = .ok (.invokevirtual 97, 3) := by decide +kernel
theorem dX8_mostVertices_29 : decode cX8_mostVertices 29 = .ok (.ifCond .eq 10, 3) := by decide +kernel
theorem dX8_mostVertices_32 : decode cX8_mostVertices 32 = .ok (.iload_n 2, 1) := by decide +kernel
theorem dX8_mostVertices_33 : decode cX8_mostVertices 33 = .ok (.invokestatic 64, 3) := by decide +kernel
theorem dX8_mostVertices_36 : decode cX8_mostVertices 36 = .ok (.goto 4, 3) := by decide +kernel
theorem dX8_mostVertices_39 : decode cX8_mostVertices 39 = .ok (.iload_n 1, 1) := by decide +kernel
theorem dX8_mostVertices_40 : decode cX8_mostVertices 40 = .ok (.istore_n 1, 1) := by decide +kernel
theorem dX8_mostVertices_41 : decode cX8_mostVertices 41 = .ok (.iinc 2 1, 3) := by decide +kernel
theorem dX8_mostVertices_44 : decode cX8_mostVertices 44 = .ok (.goto (-40), 3) := by decide +kernel
theorem dX8_mostVertices_47 : decode cX8_mostVertices 47 = .ok (.iload_n 1, 1) := by decide +kernel
theorem dX8_mostVertices_48 : decode cX8_mostVertices 48 = .ok (.ireturn, 1) := by decide +kernel
theorem dX8_canStay_0 : decode cX8_canStay 0 = .ok (.iconst 1, 1) := by decide +kernel
theorem dX8_canStay_1 : decode cX8_canStay 1 = .ok (.istore_n 2, 1) := by decide +kernel
theorem dX8_canStay_2 : decode cX8_canStay 2 = .ok (.iconst 0, 1) := by decide +kernel
theorem dX8_canStay_3 : decode cX8_canStay 3 = .ok (.istore_n 3, 1) := by decide +kernel
theorem dX8_canStay_4 : decode cX8_canStay 4 = .ok (.iload_n 3, 1) := by decide +kernel
theorem dX8_canStay_5 : decode cX8_canStay 5 = .ok (.iload_n 1, 1) := by decide +kernel
theorem dX8_canStay_6 : decode cX8_canStay 6 = .ok (.if_icmp .ge 43, 3) := by decide +kernel
theorem dX8_canStay_9 : decode cX8_canStay 9 = .ok (.iload_n 2, 1) := by decide +kernel
theorem dX8_canStay_10 : decode cX8_canStay 10 = .ok (.ifCond .eq 31, 3) := by decide +kernel
theorem dX8_canStay_13 : decode cX8_canStay 13 = .ok (.aload_n 0, 1) := by decide +kernel
theorem dX8_canStay_14 : decode cX8_canStay 14 = .ok (.iload_n 1, 1) := by decide +kernel
theorem dX8_canStay_15 : decode cX8_canStay 15 = .ok (.iload_n 3, 1) := by decide +kernel
theorem dX8_canStay_16 : decode cX8_canStay 16 = .ok (.invokevirtual 67, 3) := by decide +kernel
theorem dX8_canStay_19 : decode cX8_canStay 19 = .ok (.ifCond .eq 18, 3) := by decide +kernel
theorem dX8_canStay_22 : decode cX8_canStay 22 = .ok (.aload_n 0, 1) := by decide +kernel
theorem dX8_canStay_23 : decode cX8_canStay 23 = .ok (.getfield 25, 3) := by decide +kernel
theorem dX8_canStay_26 : decode cX8_canStay 26 = .ok (.iload_n 3, 1) := by decide +kernel
theorem dX8_canStay_27 : decode cX8_canStay 27 = .ok (.iaload, 1) := by decide +kernel
theorem dX8_canStay_28 : decode cX8_canStay 28 = .ok (.aload_n 0, 1) := by decide +kernel
theorem dX8_canStay_29 : decode cX8_canStay 29 = .ok (.getfield 25, 3) := by decide +kernel
theorem dX8_canStay_32 : decode cX8_canStay 32 = .ok (.iload_n 1, 1) := by decide +kernel
theorem dX8_canStay_33 : decode cX8_canStay 33 = .ok (.iaload, 1) := by decide +kernel
theorem dX8_canStay_34 : decode cX8_canStay 34 = .ok (.if_icmp .eq 7, 3) := by decide +kernel
theorem dX8_canStay_37 : decode cX8_canStay 37 = .ok (.iconst 1, 1) := by decide +kernel
theorem dX8_canStay_38 : decode cX8_canStay 38 = .ok (.goto 4, 3) := by decide +kernel
theorem dX8_canStay_41 : decode cX8_canStay 41 = .ok (.iconst 0, 1) := by decide +kernel
theorem dX8_canStay_42 : decode cX8_canStay 42 = .ok (.istore_n 2, 1) := by decide +kernel
theorem dX8_canStay_43 : decode cX8_canStay 43 = .ok (.iinc 3 1, 3) := by decide +kernel
theorem dX8_canStay_46 : decode cX8_canStay 46 = .ok (.goto (-42), 3) := by decide +kernel
theorem dX8_canStay_49 : decode cX8_canStay 49 = .ok (.iload_n 2, 1) := by decide +kernel
theorem dX8_canStay_50 : decode cX8_canStay 50 = .ok (.ireturn, 1) := by decide +kernel
theorem dX8_colorBy_0 : decode cX8_colorBy 0 = .ok (.iconst 0, 1) := by decide +kernel
theorem dX8_colorBy_1 : decode cX8_colorBy 1 = .ok (.istore_n 2, 1) := by decide +kernel
theorem dX8_colorBy_2 : decode cX8_colorBy 2 = .ok (.aload_n 0, 1) := by decide +kernel
theorem dX8_colorBy_3 : decode cX8_colorBy 3 = .ok (.getfield 25, 3) := by decide +kernel
theorem dX8_colorBy_6 : decode cX8_colorBy 6 = .ok (.iconst 0, 1) := by decide +kernel
theorem dX8_colorBy_7 : decode cX8_colorBy 7 = .ok (.iconst (-1), 1) := by decide +kernel
theorem dX8_colorBy_8 : decode cX8_colorBy 8 = .ok (.iastore, 1) := by decide +kernel
theorem dX8_colorBy_9 : decode cX8_colorBy 9 = .ok (.iload_n 2, 1) := by decide +kernel
theorem dX8_colorBy_10 : decode cX8_colorBy 10 = .ok (.ifCond .lt 70, 3) := by decide +kernel
theorem dX8_colorBy_13 : decode cX8_colorBy 13 = .ok (.iload_n 2, 1) := by decide +kernel
theorem dX8_colorBy_14 : decode cX8_colorBy 14 = .ok (.aload_n 0, 1) := by decide +kernel
theorem dX8_colorBy_15 : decode cX8_colorBy 15 = .ok (.getfield 7, 3) := by decide +kernel
theorem dX8_colorBy_18 : decode cX8_colorBy 18 = .ok (.iconst 0, 1) := by decide +kernel
theorem dX8_colorBy_19 : decode cX8_colorBy 19 = .ok (.iaload, 1) := by decide +kernel
theorem dX8_colorBy_20 : decode cX8_colorBy 20 = .ok (.if_icmp .ge 60, 3) := by decide +kernel
theorem dX8_colorBy_23 : decode cX8_colorBy 23 = .ok (.aload_n 0, 1) := by decide +kernel
theorem dX8_colorBy_24 : decode cX8_colorBy 24 = .ok (.getfield 25, 3) := by decide +kernel
theorem dX8_colorBy_27 : decode cX8_colorBy 27 = .ok (.iload_n 2, 1) := by decide +kernel
theorem dX8_colorBy_28 : decode cX8_colorBy 28 = .ok (.dup2, 1) := by decide +kernel
theorem dX8_colorBy_29 : decode cX8_colorBy 29 = .ok (.iaload, 1) := by decide +kernel
theorem dX8_colorBy_30 : decode cX8_colorBy 30 = .ok (.iconst 1, 1) := by decide +kernel
theorem dX8_colorBy_31 : decode cX8_colorBy 31 = .ok (.iadd, 1) := by decide +kernel
theorem dX8_colorBy_32 : decode cX8_colorBy 32 = .ok (.iastore, 1) := by decide +kernel
theorem dX8_colorBy_33 : decode cX8_colorBy 33 = .ok (.aload_n 0, 1) := by decide +kernel
theorem dX8_colorBy_34 : decode cX8_colorBy 34 = .ok (.getfield 25, 3) := by decide +kernel
theorem dX8_colorBy_37 : decode cX8_colorBy 37 = .ok (.iload_n 2, 1) := by decide +kernel
theorem dX8_colorBy_38 : decode cX8_colorBy 38 = .ok (.iaload, 1) := by decide +kernel
theorem dX8_colorBy_39 : decode cX8_colorBy 39 = .ok (.iload_n 1, 1) := by decide +kernel
theorem dX8_colorBy_40 : decode cX8_colorBy 40 = .ok (.if_icmp .lt 9, 3) := by decide +kernel
theorem dX8_colorBy_43 : decode cX8_colorBy 43 = .ok (.iinc 2 (-1), 3) := by decide +kernel
theorem dX8_colorBy_46 : decode cX8_colorBy 46 = .ok (.goto (-37), 3) := by decide +kernel
theorem dX8_colorBy_49 : decode cX8_colorBy 49 = .ok (.aload_n 0, 1) := by decide +kernel
theorem dX8_colorBy_50 : decode cX8_colorBy 50 = .ok (.iload_n 2, 1) := by decide +kernel
theorem dX8_colorBy_51 : decode cX8_colorBy 51 = .ok (.invokevirtual 104, 3) := by decide +kernel
theorem dX8_colorBy_54 : decode cX8_colorBy 54 = .ok (.ifCond .eq (-45), 3) := by decide +kernel
theorem dX8_colorBy_57 : decode cX8_colorBy 57 = .ok (.iinc 2 1, 3) := by decide +kernel
theorem dX8_colorBy_60 : decode cX8_colorBy 60 = .ok (.iload_n 2, 1) := by decide +kernel
theorem dX8_colorBy_61 : decode cX8_colorBy 61 = .ok (.aload_n 0, 1) := by decide +kernel
theorem dX8_colorBy_62 : decode cX8_colorBy 62 = .ok (.getfield 7, 3) := by decide +kernel
theorem dX8_colorBy_65 : decode cX8_colorBy 65 = .ok (.iconst 0, 1) := by decide +kernel
theorem dX8_colorBy_66 : decode cX8_colorBy 66 = .ok (.iaload, 1) := by decide +kernel
theorem dX8_colorBy_67 : decode cX8_colorBy 67 = .ok (.if_icmp .ge (-58), 3) := by decide +kernel
theorem dX8_colorBy_70 : decode cX8_colorBy 70 = .ok (.aload_n 0, 1) := by decide +kernel
theorem dX8_colorBy_71 : decode cX8_colorBy 71 = .ok (.getfield 25, 3) := by decide +kernel
theorem dX8_colorBy_74 : decode cX8_colorBy 74 = .ok (.iload_n 2, 1) := by decide +kernel
theorem dX8_colorBy_75 : decode cX8_colorBy 75 = .ok (.iconst (-1), 1) := by decide +kernel
theorem dX8_colorBy_76 : decode cX8_colorBy 76 = .ok (.iastore, 1) := by decide +kernel
theorem dX8_colorBy_77 : decode cX8_colorBy 77 = .ok (.goto (-68), 3) := by decide +kernel
theorem dX8_colorBy_80 : decode cX8_colorBy 80 = .ok (.iload_n 2, 1) := by decide +kernel
theorem dX8_colorBy_81 : decode cX8_colorBy 81 = .ok (.aload_n 0, 1) := by decide +kernel
theorem dX8_colorBy_82 : decode cX8_colorBy 82 = .ok (.getfield 7, 3) := by decide +kernel
theorem dX8_colorBy_85 : decode cX8_colorBy 85 = .ok (.iconst 0, 1) := by decide +kernel
theorem dX8_colorBy_86 : decode cX8_colorBy 86 = .ok (.iaload, 1) := by decide +kernel
theorem dX8_colorBy_87 : decode cX8_colorBy 87 = .ok (.if_icmp .ne 7, 3) := by decide +kernel
theorem dX8_colorBy_90 : decode cX8_colorBy 90 = .ok (.iconst 1, 1) := by decide +kernel
theorem dX8_colorBy_91 : decode cX8_colorBy 91 = .ok (.goto 4, 3) := by decide +kernel
theorem dX8_colorBy_94 : decode cX8_colorBy 94 = .ok (.iconst 0, 1) := by decide +kernel
theorem dX8_colorBy_95 : decode cX8_colorBy 95 = .ok (.ireturn, 1) := by decide +kernel
theorem dX8_colorAll_0 : decode cX8_colorAll 0 = .ok (.iconst 1, 1) := by decide +kernel
theorem dX8_colorAll_1 : decode cX8_colorAll 1 = .ok (.istore_n 1, 1) := by decide +kernel
theorem dX8_colorAll_2 : decode cX8_colorAll 2 = .ok (.aload_n 0, 1) := by decide +kernel
theorem dX8_colorAll_3 : decode cX8_colorAll 3 = .ok (.iload_n 1, 1) := by decide +kernel
theorem dX8_colorAll_4 : decode cX8_colorAll 4 = .ok (.invokevirtual 107, 3) := by decide +kernel
theorem dX8_colorAll_7 : decode cX8_colorAll 7 = .ok (.ifCond .ne 9, 3) := by decide +kernel
theorem dX8_colorAll_10 : decode cX8_colorAll 10 = .ok (.iinc 1 1, 3) := by decide +kernel
theorem dX8_colorAll_13 : decode cX8_colorAll 13 = .ok (.goto (-11), 3) := by decide +kernel
theorem dX8_colorAll_16 : decode cX8_colorAll 16 = .ok (.iload_n 1, 1) := by decide +kernel
theorem dX8_colorAll_17 : decode cX8_colorAll 17 = .ok (.ireturn, 1) := by decide +kernel
theorem dX8_empties_0 : decode cX8_empties 0 = .ok (.iconst 0, 1) := by decide +kernel
theorem dX8_empties_1 : decode cX8_empties 1 = .ok (.istore_n 3, 1) := by decide +kernel
theorem dX8_empties_2 : decode cX8_empties 2 = .ok (.iload_n 3, 1) := by decide +kernel
theorem dX8_empties_3 : decode cX8_empties 3 = .ok (.bipush 54, 2) := by decide +kernel
theorem dX8_empties_5 : decode cX8_empties 5 = .ok (.if_icmp .ge 16, 3) := by decide +kernel
theorem dX8_empties_8 : decode cX8_empties 8 = .ok (.aload_n 0, 1) := by decide +kernel
theorem dX8_empties_9 : decode cX8_empties 9 = .ok (.getfield 7, 3) := by decide +kernel
theorem dX8_empties_12 : decode cX8_empties 12 = .ok (.iload_n 3, 1) := by decide +kernel
theorem dX8_empties_13 : decode cX8_empties 13 = .ok (.iconst 0, 1) := by decide +kernel
theorem dX8_empties_14 : decode cX8_empties 14 = .ok (.iastore, 1) := by decide +kernel
theorem dX8_empties_15 : decode cX8_empties 15 = .ok (.iinc 3 1, 3) := by decide +kernel
theorem dX8_empties_18 : decode cX8_empties 18 = .ok (.goto (-16), 3) := by decide +kernel
theorem dX8_empties_21 : decode cX8_empties 21 = .ok (.aload_n 0, 1) := by decide +kernel
theorem dX8_empties_22 : decode cX8_empties 22 = .ok (.getfield 7, 3) := by decide +kernel
theorem dX8_empties_25 : decode cX8_empties 25 = .ok (.iconst 0, 1) := by decide +kernel
theorem dX8_empties_26 : decode cX8_empties 26 = .ok (.iload_n 1, 1) := by decide +kernel
theorem dX8_empties_27 : decode cX8_empties 27 = .ok (.iastore, 1) := by decide +kernel
theorem dX8_empties_28 : decode cX8_empties 28 = .ok (.aload_n 0, 1) := by decide +kernel
theorem dX8_empties_29 : decode cX8_empties 29 = .ok (.getfield 7, 3) := by decide +kernel
theorem dX8_empties_32 : decode cX8_empties 32 = .ok (.iconst 1, 1) := by decide +kernel
theorem dX8_empties_33 : decode cX8_empties 33 = .ok (.iload_n 2, 1) := by decide +kernel
theorem dX8_empties_34 : decode cX8_empties 34 = .ok (.iastore, 1) := by decide +kernel
theorem dX8_empties_35 : decode cX8_empties 35 = .ok (.iconst 0, 1) := by decide +kernel
theorem dX8_empties_36 : decode cX8_empties 36 = .ok (.istore_n 3, 1) := by decide +kernel
theorem dX8_empties_37 : decode cX8_empties 37 = .ok (.iload_n 3, 1) := by decide +kernel
theorem dX8_empties_38 : decode cX8_empties 38 = .ok (.iload_n 1, 1) := by decide +kernel
theorem dX8_empties_39 : decode cX8_empties 39 = .ok (.if_icmp .ge 18, 3) := by decide +kernel
theorem dX8_empties_42 : decode cX8_empties 42 = .ok (.aload_n 0, 1) := by decide +kernel
theorem dX8_empties_43 : decode cX8_empties 43 = .ok (.getfield 7, 3) := by decide +kernel
theorem dX8_empties_46 : decode cX8_empties 46 = .ok (.iconst 2, 1) := by decide +kernel
theorem dX8_empties_47 : decode cX8_empties 47 = .ok (.iload_n 3, 1) := by decide +kernel
theorem dX8_empties_48 : decode cX8_empties 48 = .ok (.iadd, 1) := by decide +kernel
theorem dX8_empties_49 : decode cX8_empties 49 = .ok (.iconst 1, 1) := by decide +kernel
theorem dX8_empties_50 : decode cX8_empties 50 = .ok (.iastore, 1) := by decide +kernel
theorem dX8_empties_51 : decode cX8_empties 51 = .ok (.iinc 3 1, 3) := by decide +kernel
theorem dX8_empties_54 : decode cX8_empties 54 = .ok (.goto (-17), 3) := by decide +kernel
theorem dX8_empties_57 : decode cX8_empties 57 = .ok (.return_, 1) := by decide +kernel
theorem dX8_begin_0 : decode cX8_begin 0 = .ok (.aload_n 0, 1) := by decide +kernel
theorem dX8_begin_1 : decode cX8_begin 1 = .ok (.iload_n 1, 1) := by decide +kernel
theorem dX8_begin_2 : decode cX8_begin 2 = .ok (.iconst 1, 1) := by decide +kernel
theorem dX8_begin_3 : decode cX8_begin 3 = .ok (.bipush 8, 2) := by decide +kernel
theorem dX8_begin_5 : decode cX8_begin 5 = .ok (.invokestatic 48, 3) := by decide +kernel
theorem dX8_begin_8 : decode cX8_begin 8 = .ok (.ifCond .eq 16, 3) := by decide +kernel
theorem dX8_begin_11 : decode cX8_begin 11 = .ok (.iload_n 2, 1) := by decide +kernel
theorem dX8_begin_12 : decode cX8_begin 12 = .ok (.iconst 1, 1) := by decide +kernel
theorem dX8_begin_13 : decode cX8_begin 13 = .ok (.iconst 4, 1) := by decide +kernel
theorem dX8_begin_14 : decode cX8_begin 14 = .ok (.invokestatic 48, 3) := by decide +kernel
theorem dX8_begin_17 : decode cX8_begin 17 = .ok (.ifCond .eq 7, 3) := by decide +kernel
theorem dX8_begin_20 : decode cX8_begin 20 = .ok (.iconst 0, 1) := by decide +kernel
theorem dX8_begin_21 : decode cX8_begin 21 = .ok (.goto 4, 3) := by decide +kernel
theorem dX8_begin_24 : decode cX8_begin 24 = .ok (.iconst 1, 1) := by decide +kernel
theorem dX8_begin_25 : decode cX8_begin 25 = .ok (.putfield 41, 3) := by decide +kernel
theorem dX8_begin_28 : decode cX8_begin 28 = .ok (.aload_n 0, 1) := by decide +kernel
theorem dX8_begin_29 : decode cX8_begin 29 = .ok (.getfield 41, 3) := by decide +kernel
theorem dX8_begin_32 : decode cX8_begin 32 = .ok (.ifCond .le 5, 3) := by decide +kernel
theorem dX8_begin_35 : decode cX8_begin 35 = .ok (.iconst 0, 1) := by decide +kernel
theorem dX8_begin_36 : decode cX8_begin 36 = .ok (.ireturn, 1) := by decide +kernel
theorem dX8_begin_37 : decode cX8_begin 37 = .ok (.aload_n 0, 1) := by decide +kernel
theorem dX8_begin_38 : decode cX8_begin 38 = .ok (.invokevirtual 110, 3) := by decide +kernel
theorem dX8_begin_41 : decode cX8_begin 41 = .ok (.aload_n 0, 1) := by decide +kernel
theorem dX8_begin_42 : decode cX8_begin 42 = .ok (.getfield 7, 3) := by decide +kernel
theorem dX8_begin_45 : decode cX8_begin 45 = .ok (.iconst 0, 1) := by decide +kernel
theorem dX8_begin_46 : decode cX8_begin 46 = .ok (.iaload, 1) := by decide +kernel
theorem dX8_begin_47 : decode cX8_begin 47 = .ok (.istore_n 3, 1) := by decide +kernel
theorem dX8_begin_48 : decode cX8_begin 48 = .ok (.aload_n 0, 1) := by decide +kernel
theorem dX8_begin_49 : decode cX8_begin 49 = .ok (.iload_n 1, 1) := by decide +kernel
theorem dX8_begin_50 : decode cX8_begin 50 = .ok (.iload_n 2, 1) := by decide +kernel
theorem dX8_begin_51 : decode cX8_begin 51 = .ok (.invokevirtual 37, 3) := by decide +kernel
theorem dX8_begin_54 : decode cX8_begin 54 = .ok (.iload_n 3, 1) := by decide +kernel
theorem dX8_begin_55 : decode cX8_begin 55 = .ok (.ireturn, 1) := by decide +kernel
theorem dX8_joins_0 : decode cX8_joins 0 = .ok (.aload_n 0, 1) := by decide +kernel
theorem dX8_joins_1 : decode cX8_joins 1 = .ok (.getfield 7, 3) := by decide +kernel
theorem dX8_joins_4 : decode cX8_joins 4 = .ok (.bipush 10, 2) := by decide +kernel
theorem dX8_joins_6 : decode cX8_joins 6 = .ok (.iload_n 1, 1) := by decide +kernel
theorem dX8_joins_7 : decode cX8_joins 7 = .ok (.iadd, 1) := by decide +kernel
theorem dX8_joins_8 : decode cX8_joins 8 = .ok (.aload_n 0, 1) := by decide +kernel
theorem dX8_joins_9 : decode cX8_joins 9 = .ok (.getfield 7, 3) := by decide +kernel
theorem dX8_joins_12 : decode cX8_joins 12 = .ok (.bipush 10, 2) := by decide +kernel
theorem dX8_joins_14 : decode cX8_joins 14 = .ok (.iload_n 1, 1) := by decide +kernel
theorem dX8_joins_15 : decode cX8_joins 15 = .ok (.iadd, 1) := by decide +kernel
theorem dX8_joins_16 : decode cX8_joins 16 = .ok (.iaload, 1) := by decide +kernel
theorem dX8_joins_17 : decode cX8_joins 17 = .ok (.iconst 1, 1) := by decide +kernel
theorem dX8_joins_18 : decode cX8_joins 18 = .ok (.iload_n 2, 1) := by decide +kernel
theorem dX8_joins_19 : decode cX8_joins 19 = .ok (.ishl, 1) := by decide +kernel
theorem dX8_joins_20 : decode cX8_joins 20 = .ok (.iconst (-1), 1) := by decide +kernel
theorem dX8_joins_21 : decode cX8_joins 21 = .ok (.ixor, 1) := by decide +kernel
theorem dX8_joins_22 : decode cX8_joins 22 = .ok (.iand, 1) := by decide +kernel
theorem dX8_joins_23 : decode cX8_joins 23 = .ok (.iload_n 3, 1) := by decide +kernel
theorem dX8_joins_24 : decode cX8_joins 24 = .ok (.ifCond .eq 9, 3) := by decide +kernel
theorem dX8_joins_27 : decode cX8_joins 27 = .ok (.iconst 1, 1) := by decide +kernel
theorem dX8_joins_28 : decode cX8_joins 28 = .ok (.iload_n 2, 1) := by decide +kernel
theorem dX8_joins_29 : decode cX8_joins 29 = .ok (.ishl, 1) := by decide +kernel
theorem dX8_joins_30 : decode cX8_joins 30 = .ok (.goto 4, 3) := by decide +kernel
theorem dX8_joins_33 : decode cX8_joins 33 = .ok (.iconst 0, 1) := by decide +kernel
theorem dX8_joins_34 : decode cX8_joins 34 = .ok (.ior, 1) := by decide +kernel
theorem dX8_joins_35 : decode cX8_joins 35 = .ok (.iastore, 1) := by decide +kernel
theorem dX8_joins_36 : decode cX8_joins 36 = .ok (.aload_n 0, 1) := by decide +kernel
theorem dX8_joins_37 : decode cX8_joins 37 = .ok (.getfield 7, 3) := by decide +kernel
theorem dX8_joins_40 : decode cX8_joins 40 = .ok (.bipush 10, 2) := by decide +kernel
theorem dX8_joins_42 : decode cX8_joins 42 = .ok (.iload_n 2, 1) := by decide +kernel
theorem dX8_joins_43 : decode cX8_joins 43 = .ok (.iadd, 1) := by decide +kernel
theorem dX8_joins_44 : decode cX8_joins 44 = .ok (.aload_n 0, 1) := by decide +kernel
theorem dX8_joins_45 : decode cX8_joins 45 = .ok (.getfield 7, 3) := by decide +kernel
theorem dX8_joins_48 : decode cX8_joins 48 = .ok (.bipush 10, 2) := by decide +kernel
theorem dX8_joins_50 : decode cX8_joins 50 = .ok (.iload_n 2, 1) := by decide +kernel
theorem dX8_joins_51 : decode cX8_joins 51 = .ok (.iadd, 1) := by decide +kernel
theorem dX8_joins_52 : decode cX8_joins 52 = .ok (.iaload, 1) := by decide +kernel
theorem dX8_joins_53 : decode cX8_joins 53 = .ok (.iconst 1, 1) := by decide +kernel
theorem dX8_joins_54 : decode cX8_joins 54 = .ok (.iload_n 1, 1) := by decide +kernel
theorem dX8_joins_55 : decode cX8_joins 55 = .ok (.ishl, 1) := by decide +kernel
theorem dX8_joins_56 : decode cX8_joins 56 = .ok (.iconst (-1), 1) := by decide +kernel
theorem dX8_joins_57 : decode cX8_joins 57 = .ok (.ixor, 1) := by decide +kernel
theorem dX8_joins_58 : decode cX8_joins 58 = .ok (.iand, 1) := by decide +kernel
theorem dX8_joins_59 : decode cX8_joins 59 = .ok (.iload_n 3, 1) := by decide +kernel
theorem dX8_joins_60 : decode cX8_joins 60 = .ok (.ifCond .eq 9, 3) := by decide +kernel
theorem dX8_joins_63 : decode cX8_joins 63 = .ok (.iconst 1, 1) := by decide +kernel
theorem dX8_joins_64 : decode cX8_joins 64 = .ok (.iload_n 1, 1) := by decide +kernel
theorem dX8_joins_65 : decode cX8_joins 65 = .ok (.ishl, 1) := by decide +kernel
theorem dX8_joins_66 : decode cX8_joins 66 = .ok (.goto 4, 3) := by decide +kernel
theorem dX8_joins_69 : decode cX8_joins 69 = .ok (.iconst 0, 1) := by decide +kernel
theorem dX8_joins_70 : decode cX8_joins 70 = .ok (.ior, 1) := by decide +kernel
theorem dX8_joins_71 : decode cX8_joins 71 = .ok (.iastore, 1) := by decide +kernel
theorem dX8_joins_72 : decode cX8_joins 72 = .ok (.return_, 1) := by decide +kernel
theorem dX8_join_0 : decode cX8_join 0 = .ok (.aload_n 0, 1) := by decide +kernel
theorem dX8_join_1 : decode cX8_join 1 = .ok (.aload_n 0, 1) := by decide +kernel
theorem dX8_join_2 : decode cX8_join 2 = .ok (.iload_n 1, 1) := by decide +kernel
theorem dX8_join_3 : decode cX8_join 3 = .ok (.invokevirtual 113, 3) := by decide +kernel
theorem dX8_join_6 : decode cX8_join 6 = .ok (.ifCond .eq 11, 3) := by decide +kernel
theorem dX8_join_9 : decode cX8_join 9 = .ok (.aload_n 0, 1) := by decide +kernel
theorem dX8_join_10 : decode cX8_join 10 = .ok (.iload_n 2, 1) := by decide +kernel
theorem dX8_join_11 : decode cX8_join 11 = .ok (.invokevirtual 113, 3) := by decide +kernel
theorem dX8_join_14 : decode cX8_join 14 = .ok (.ifCond .ne 7, 3) := by decide +kernel
theorem dX8_join_17 : decode cX8_join 17 = .ok (.iconst 1, 1) := by decide +kernel
theorem dX8_join_18 : decode cX8_join 18 = .ok (.goto 13, 3) := by decide +kernel
theorem dX8_join_21 : decode cX8_join 21 = .ok (.iload_n 1, 1) := by decide +kernel
theorem dX8_join_22 : decode cX8_join 22 = .ok (.iload_n 2, 1) := by decide +kernel
theorem dX8_join_23 : decode cX8_join 23 = .ok (.if_icmp .ne 7, 3) := by decide +kernel
theorem dX8_join_26 : decode cX8_join 26 = .ok (.iconst 2, 1) := by decide +kernel
theorem dX8_join_27 : decode cX8_join 27 = .ok (.goto 4, 3) := by decide +kernel
theorem dX8_join_30 : decode cX8_join 30 = .ok (.iconst 0, 1) := by decide +kernel
theorem dX8_join_31 : decode cX8_join 31 = .ok (.putfield 41, 3) := by decide +kernel
theorem dX8_join_34 : decode cX8_join 34 = .ok (.aload_n 0, 1) := by decide +kernel
theorem dX8_join_35 : decode cX8_join 35 = .ok (.getfield 41, 3) := by decide +kernel
theorem dX8_join_38 : decode cX8_join 38 = .ok (.ifCond .le 5, 3) := by decide +kernel
theorem dX8_join_41 : decode cX8_join 41 = .ok (.iconst 0, 1) := by decide +kernel
theorem dX8_join_42 : decode cX8_join 42 = .ok (.ireturn, 1) := by decide +kernel
theorem dX8_join_43 : decode cX8_join 43 = .ok (.aload_n 0, 1) := by decide +kernel
theorem dX8_join_44 : decode cX8_join 44 = .ok (.invokevirtual 110, 3) := by decide +kernel
theorem dX8_join_47 : decode cX8_join 47 = .ok (.aload_n 0, 1) := by decide +kernel
theorem dX8_join_48 : decode cX8_join 48 = .ok (.iload_n 1, 1) := by decide +kernel
theorem dX8_join_49 : decode cX8_join 49 = .ok (.iload_n 2, 1) := by decide +kernel
theorem dX8_join_50 : decode cX8_join 50 = .ok (.iload_n 3, 1) := by decide +kernel
theorem dX8_join_51 : decode cX8_join 51 = .ok (.invokevirtual 116, 3) := by decide +kernel
theorem dX8_join_54 : decode cX8_join 54 = .ok (.aload_n 0, 1) := by decide +kernel
theorem dX8_join_55 : decode cX8_join 55 = .ok (.invokevirtual 120, 3) := by decide +kernel
theorem dX8_join_58 : decode cX8_join 58 = .ok (.ireturn, 1) := by decide +kernel
theorem dX8_weigh_0 : decode cX8_weigh 0 = .ok (.aload_n 0, 1) := by decide +kernel
theorem dX8_weigh_1 : decode cX8_weigh 1 = .ok (.aload_n 0, 1) := by decide +kernel
theorem dX8_weigh_2 : decode cX8_weigh 2 = .ok (.iload_n 1, 1) := by decide +kernel
theorem dX8_weigh_3 : decode cX8_weigh 3 = .ok (.invokevirtual 113, 3) := by decide +kernel
theorem dX8_weigh_6 : decode cX8_weigh 6 = .ok (.ifCond .ne 7, 3) := by decide +kernel
theorem dX8_weigh_9 : decode cX8_weigh 9 = .ok (.iconst 1, 1) := by decide +kernel
theorem dX8_weigh_10 : decode cX8_weigh 10 = .ok (.goto 18, 3) := by decide +kernel
theorem dX8_weigh_13 : decode cX8_weigh 13 = .ok (.iload_n 2, 1) := by decide +kernel
theorem dX8_weigh_14 : decode cX8_weigh 14 = .ok (.iconst 0, 1) := by decide +kernel
theorem dX8_weigh_15 : decode cX8_weigh 15 = .ok (.bipush 9, 2) := by decide +kernel
theorem dX8_weigh_17 : decode cX8_weigh 17 = .ok (.invokestatic 48, 3) := by decide +kernel
theorem dX8_weigh_20 : decode cX8_weigh 20 = .ok (.ifCond .eq 7, 3) := by decide +kernel
theorem dX8_weigh_23 : decode cX8_weigh 23 = .ok (.iconst 0, 1) := by decide +kernel
theorem dX8_weigh_24 : decode cX8_weigh 24 = .ok (.goto 4, 3) := by decide +kernel
theorem dX8_weigh_27 : decode cX8_weigh 27 = .ok (.iconst 2, 1) := by decide +kernel
theorem dX8_weigh_28 : decode cX8_weigh 28 = .ok (.putfield 41, 3) := by decide +kernel
theorem dX8_weigh_31 : decode cX8_weigh 31 = .ok (.aload_n 0, 1) := by decide +kernel
theorem dX8_weigh_32 : decode cX8_weigh 32 = .ok (.getfield 41, 3) := by decide +kernel
theorem dX8_weigh_35 : decode cX8_weigh 35 = .ok (.ifCond .le 5, 3) := by decide +kernel
theorem dX8_weigh_38 : decode cX8_weigh 38 = .ok (.iconst 0, 1) := by decide +kernel
theorem dX8_weigh_39 : decode cX8_weigh 39 = .ok (.ireturn, 1) := by decide +kernel
theorem dX8_weigh_40 : decode cX8_weigh 40 = .ok (.aload_n 0, 1) := by decide +kernel
theorem dX8_weigh_41 : decode cX8_weigh 41 = .ok (.invokevirtual 110, 3) := by decide +kernel
theorem dX8_weigh_44 : decode cX8_weigh 44 = .ok (.aload_n 0, 1) := by decide +kernel
theorem dX8_weigh_45 : decode cX8_weigh 45 = .ok (.iload_n 1, 1) := by decide +kernel
theorem dX8_weigh_46 : decode cX8_weigh 46 = .ok (.invokevirtual 70, 3) := by decide +kernel
theorem dX8_weigh_49 : decode cX8_weigh 49 = .ok (.istore_n 3, 1) := by decide +kernel
theorem dX8_weigh_50 : decode cX8_weigh 50 = .ok (.aload_n 0, 1) := by decide +kernel
theorem dX8_weigh_51 : decode cX8_weigh 51 = .ok (.getfield 7, 3) := by decide +kernel
theorem dX8_weigh_54 : decode cX8_weigh 54 = .ok (.iconst 2, 1) := by decide +kernel
theorem dX8_weigh_55 : decode cX8_weigh 55 = .ok (.iload_n 1, 1) := by decide +kernel
theorem dX8_weigh_56 : decode cX8_weigh 56 = .ok (.iadd, 1) := by decide +kernel
theorem dX8_weigh_57 : decode cX8_weigh 57 = .ok (.iload_n 2, 1) := by decide +kernel
theorem dX8_weigh_58 : decode cX8_weigh 58 = .ok (.iastore, 1) := by decide +kernel
theorem dX8_weigh_59 : decode cX8_weigh 59 = .ok (.iload_n 3, 1) := by decide +kernel
theorem dX8_weigh_60 : decode cX8_weigh 60 = .ok (.ireturn, 1) := by decide +kernel
theorem dX8_complement_0 : decode cX8_complement 0 = .ok (.aload_n 0, 1) := by decide +kernel
theorem dX8_complement_1 : decode cX8_complement 1 = .ok (.iconst 0, 1) := by decide +kernel
theorem dX8_complement_2 : decode cX8_complement 2 = .ok (.putfield 41, 3) := by decide +kernel
theorem dX8_complement_5 : decode cX8_complement 5 = .ok (.aload_n 0, 1) := by decide +kernel
theorem dX8_complement_6 : decode cX8_complement 6 = .ok (.invokevirtual 110, 3) := by decide +kernel
theorem dX8_complement_9 : decode cX8_complement 9 = .ok (.iconst 0, 1) := by decide +kernel
theorem dX8_complement_10 : decode cX8_complement 10 = .ok (.istore_n 1, 1) := by decide +kernel
theorem dX8_complement_11 : decode cX8_complement 11 = .ok (.iload_n 1, 1) := by decide +kernel
theorem dX8_complement_12 : decode cX8_complement 12 = .ok (.aload_n 0, 1) := by decide +kernel
theorem dX8_complement_13 : decode cX8_complement 13 = .ok (.getfield 7, 3) := by decide +kernel
theorem dX8_complement_16 : decode cX8_complement 16 = .ok (.iconst 0, 1) := by decide +kernel
theorem dX8_complement_17 : decode cX8_complement 17 = .ok (.iaload, 1) := by decide +kernel
theorem dX8_complement_18 : decode cX8_complement 18 = .ok (.if_icmp .ge 46, 3) := by decide +kernel
theorem dX8_complement_21 : decode cX8_complement 21 = .ok (.aload_n 0, 1) := by decide +kernel
theorem dX8_complement_22 : decode cX8_complement 22 = .ok (.getfield 7, 3) := by decide +kernel
theorem dX8_complement_25 : decode cX8_complement 25 = .ok (.bipush 10, 2) := by decide +kernel
theorem dX8_complement_27 : decode cX8_complement 27 = .ok (.iload_n 1, 1) := by decide +kernel
theorem dX8_complement_28 : decode cX8_complement 28 = .ok (.iadd, 1) := by decide +kernel
theorem dX8_complement_29 : decode cX8_complement 29 = .ok (.iconst 1, 1) := by decide +kernel
theorem dX8_complement_30 : decode cX8_complement 30 = .ok (.aload_n 0, 1) := by decide +kernel
theorem dX8_complement_31 : decode cX8_complement 31 = .ok (.getfield 7, 3) := by decide +kernel
theorem dX8_complement_34 : decode cX8_complement 34 = .ok (.iconst 0, 1) := by decide +kernel
theorem dX8_complement_35 : decode cX8_complement 35 = .ok (.iaload, 1) := by decide +kernel
theorem dX8_complement_36 : decode cX8_complement 36 = .ok (.ishl, 1) := by decide +kernel
theorem dX8_complement_37 : decode cX8_complement 37 = .ok (.iconst 1, 1) := by decide +kernel
theorem dX8_complement_38 : decode cX8_complement 38 = .ok (.isub, 1) := by decide +kernel
theorem dX8_complement_39 : decode cX8_complement 39 = .ok (.aload_n 0, 1) := by decide +kernel
theorem dX8_complement_40 : decode cX8_complement 40 = .ok (.getfield 7, 3) := by decide +kernel
theorem dX8_complement_43 : decode cX8_complement 43 = .ok (.bipush 10, 2) := by decide +kernel
theorem dX8_complement_45 : decode cX8_complement 45 = .ok (.iload_n 1, 1) := by decide +kernel
theorem dX8_complement_46 : decode cX8_complement 46 = .ok (.iadd, 1) := by decide +kernel
theorem dX8_complement_47 : decode cX8_complement 47 = .ok (.iaload, 1) := by decide +kernel
theorem dX8_complement_48 : decode cX8_complement 48 = .ok (.iconst (-1), 1) := by decide +kernel
theorem dX8_complement_49 : decode cX8_complement 49 = .ok (.ixor, 1) := by decide +kernel
theorem dX8_complement_50 : decode cX8_complement 50 = .ok (.iand, 1) := by decide +kernel
theorem dX8_complement_51 : decode cX8_complement 51 = .ok (.iconst 1, 1) := by decide +kernel
theorem dX8_complement_52 : decode cX8_complement 52 = .ok (.iload_n 1, 1) := by decide +kernel
theorem dX8_complement_53 : decode cX8_complement 53 = .ok (.ishl, 1) := by decide +kernel
theorem dX8_complement_54 : decode cX8_complement 54 = .ok (.iconst (-1), 1) := by decide +kernel
theorem dX8_complement_55 : decode cX8_complement 55 = .ok (.ixor, 1) := by decide +kernel
theorem dX8_complement_56 : decode cX8_complement 56 = .ok (.iand, 1) := by decide +kernel
theorem dX8_complement_57 : decode cX8_complement 57 = .ok (.iastore, 1) := by decide +kernel
theorem dX8_complement_58 : decode cX8_complement 58 = .ok (.iinc 1 1, 3) := by decide +kernel
theorem dX8_complement_61 : decode cX8_complement 61 = .ok (.goto (-50), 3) := by decide +kernel
theorem dX8_complement_64 : decode cX8_complement 64 = .ok (.aload_n 0, 1) := by decide +kernel
theorem dX8_complement_65 : decode cX8_complement 65 = .ok (.invokevirtual 120, 3) := by decide +kernel
theorem dX8_complement_68 : decode cX8_complement 68 = .ok (.ireturn, 1) := by decide +kernel
theorem dX8_without_0 : decode cX8_without 0 = .ok (.iload_n 0, 1) := by decide +kernel
theorem dX8_without_1 : decode cX8_without 1 = .ok (.iconst 1, 1) := by decide +kernel
theorem dX8_without_2 : decode cX8_without 2 = .ok (.iload_n 1, 1) := by decide +kernel
theorem dX8_without_3 : decode cX8_without 3 = .ok (.ishl, 1) := by decide +kernel
theorem dX8_without_4 : decode cX8_without 4 = .ok (.iconst 1, 1) := by decide +kernel
theorem dX8_without_5 : decode cX8_without 5 = .ok (.isub, 1) := by decide +kernel
theorem dX8_without_6 : decode cX8_without 6 = .ok (.iand, 1) := by decide +kernel
theorem dX8_without_7 : decode cX8_without 7 = .ok (.iload_n 0, 1) := by decide +kernel
theorem dX8_without_8 : decode cX8_without 8 = .ok (.iload_n 1, 1) := by decide +kernel
theorem dX8_without_9 : decode cX8_without 9 = .ok (.iconst 1, 1) := by decide +kernel
theorem dX8_without_10 : decode cX8_without 10 = .ok (.iadd, 1) := by decide +kernel
theorem dX8_without_11 : decode cX8_without 11 = .ok (.ishr, 1) := by decide +kernel
theorem dX8_without_12 : decode cX8_without 12 = .ok (.iload_n 1, 1) := by decide +kernel
theorem dX8_without_13 : decode cX8_without 13 = .ok (.ishl, 1) := by decide +kernel
theorem dX8_without_14 : decode cX8_without 14 = .ok (.ior, 1) := by decide +kernel
theorem dX8_without_15 : decode cX8_without 15 = .ok (.ireturn, 1) := by decide +kernel
theorem dX8_remove_0 : decode cX8_remove 0 = .ok (.aload_n 0, 1) := by decide +kernel
theorem dX8_remove_1 : decode cX8_remove 1 = .ok (.aload_n 0, 1) := by decide +kernel
theorem dX8_remove_2 : decode cX8_remove 2 = .ok (.iload_n 1, 1) := by decide +kernel
theorem dX8_remove_3 : decode cX8_remove 3 = .ok (.invokevirtual 113, 3) := by decide +kernel
theorem dX8_remove_6 : decode cX8_remove 6 = .ok (.ifCond .ne 7, 3) := by decide +kernel
theorem dX8_remove_9 : decode cX8_remove 9 = .ok (.iconst 1, 1) := by decide +kernel
theorem dX8_remove_10 : decode cX8_remove 10 = .ok (.goto 18, 3) := by decide +kernel
theorem dX8_remove_13 : decode cX8_remove 13 = .ok (.aload_n 0, 1) := by decide +kernel
theorem dX8_remove_14 : decode cX8_remove 14 = .ok (.getfield 7, 3) := by decide +kernel
theorem dX8_remove_17 : decode cX8_remove 17 = .ok (.iconst 0, 1) := by decide +kernel
theorem dX8_remove_18 : decode cX8_remove 18 = .ok (.iaload, 1) := by decide +kernel
theorem dX8_remove_19 : decode cX8_remove 19 = .ok (.iconst 1, 1) := by decide +kernel
theorem dX8_remove_20 : decode cX8_remove 20 = .ok (.if_icmp .ne 7, 3) := by decide +kernel
theorem dX8_remove_23 : decode cX8_remove 23 = .ok (.iconst 2, 1) := by decide +kernel
theorem dX8_remove_24 : decode cX8_remove 24 = .ok (.goto 4, 3) := by decide +kernel
theorem dX8_remove_27 : decode cX8_remove 27 = .ok (.iconst 0, 1) := by decide +kernel
theorem dX8_remove_28 : decode cX8_remove 28 = .ok (.putfield 41, 3) := by decide +kernel
theorem dX8_remove_31 : decode cX8_remove 31 = .ok (.aload_n 0, 1) := by decide +kernel
theorem dX8_remove_32 : decode cX8_remove 32 = .ok (.getfield 41, 3) := by decide +kernel
theorem dX8_remove_35 : decode cX8_remove 35 = .ok (.ifCond .le 5, 3) := by decide +kernel
theorem dX8_remove_38 : decode cX8_remove 38 = .ok (.iconst 0, 1) := by decide +kernel
theorem dX8_remove_39 : decode cX8_remove 39 = .ok (.ireturn, 1) := by decide +kernel
theorem dX8_remove_40 : decode cX8_remove 40 = .ok (.aload_n 0, 1) := by decide +kernel
theorem dX8_remove_41 : decode cX8_remove 41 = .ok (.invokevirtual 110, 3) := by decide +kernel
theorem dX8_remove_44 : decode cX8_remove 44 = .ok (.aload_n 0, 1) := by decide +kernel
theorem dX8_remove_45 : decode cX8_remove 45 = .ok (.getfield 7, 3) := by decide +kernel
theorem dX8_remove_48 : decode cX8_remove 48 = .ok (.iconst 0, 1) := by decide +kernel
theorem dX8_remove_49 : decode cX8_remove 49 = .ok (.dup2, 1) := by decide +kernel
theorem dX8_remove_50 : decode cX8_remove 50 = .ok (.iaload, 1) := by decide +kernel
theorem dX8_remove_51 : decode cX8_remove 51 = .ok (.iconst 1, 1) := by decide +kernel
theorem dX8_remove_52 : decode cX8_remove 52 = .ok (.isub, 1) := by decide +kernel
theorem dX8_remove_53 : decode cX8_remove 53 = .ok (.iastore, 1) := by decide +kernel
theorem dX8_remove_54 : decode cX8_remove 54 = .ok (.iload_n 1, 1) := by decide +kernel
theorem dX8_remove_55 : decode cX8_remove 55 = .ok (.istore_n 2, 1) := by decide +kernel
theorem dX8_remove_56 : decode cX8_remove 56 = .ok (.iload_n 2, 1) := by decide +kernel
theorem dX8_remove_57 : decode cX8_remove 57 = .ok (.aload_n 0, 1) := by decide +kernel
theorem dX8_remove_58 : decode cX8_remove 58 = .ok (.getfield 7, 3) := by decide +kernel
theorem dX8_remove_61 : decode cX8_remove 61 = .ok (.iconst 0, 1) := by decide +kernel
theorem dX8_remove_62 : decode cX8_remove 62 = .ok (.iaload, 1) := by decide +kernel
theorem dX8_remove_63 : decode cX8_remove 63 = .ok (.if_icmp .ge 84, 3) := by decide +kernel
theorem dX8_remove_66 : decode cX8_remove 66 = .ok (.aload_n 0, 1) := by decide +kernel
theorem dX8_remove_67 : decode cX8_remove 67 = .ok (.getfield 7, 3) := by decide +kernel
theorem dX8_remove_70 : decode cX8_remove 70 = .ok (.iconst 2, 1) := by decide +kernel
theorem dX8_remove_71 : decode cX8_remove 71 = .ok (.iload_n 2, 1) := by decide +kernel
theorem dX8_remove_72 : decode cX8_remove 72 = .ok (.iadd, 1) := by decide +kernel
theorem dX8_remove_73 : decode cX8_remove 73 = .ok (.aload_n 0, 1) := by decide +kernel
theorem dX8_remove_74 : decode cX8_remove 74 = .ok (.getfield 7, 3) := by decide +kernel
theorem dX8_remove_77 : decode cX8_remove 77 = .ok (.iconst 2, 1) := by decide +kernel
theorem dX8_remove_78 : decode cX8_remove 78 = .ok (.iload_n 2, 1) := by decide +kernel
theorem dX8_remove_79 : decode cX8_remove 79 = .ok (.iadd, 1) := by decide +kernel
theorem dX8_remove_80 : decode cX8_remove 80 = .ok (.iconst 1, 1) := by decide +kernel
theorem dX8_remove_81 : decode cX8_remove 81 = .ok (.iadd, 1) := by decide +kernel
theorem dX8_remove_82 : decode cX8_remove 82 = .ok (.iaload, 1) := by decide +kernel
theorem dX8_remove_83 : decode cX8_remove 83 = .ok (.iastore, 1) := by decide +kernel
theorem dX8_remove_84 : decode cX8_remove 84 = .ok (.aload_n 0, 1) := by decide +kernel
theorem dX8_remove_85 : decode cX8_remove 85 = .ok (.getfield 7, 3) := by decide +kernel
theorem dX8_remove_88 : decode cX8_remove 88 = .ok (.bipush 10, 2) := by decide +kernel
theorem dX8_remove_90 : decode cX8_remove 90 = .ok (.iload_n 2, 1) := by decide +kernel
theorem dX8_remove_91 : decode cX8_remove 91 = .ok (.iadd, 1) := by decide +kernel
theorem dX8_remove_92 : decode cX8_remove 92 = .ok (.aload_n 0, 1) := by decide +kernel
theorem dX8_remove_93 : decode cX8_remove 93 = .ok (.getfield 7, 3) := by decide +kernel
theorem dX8_remove_96 : decode cX8_remove 96 = .ok (.bipush 10, 2) := by decide +kernel
theorem dX8_remove_98 : decode cX8_remove 98 = .ok (.iload_n 2, 1) := by decide +kernel
theorem dX8_remove_99 : decode cX8_remove 99 = .ok (.iadd, 1) := by decide +kernel
theorem dX8_remove_100 : decode cX8_remove 100 = .ok (.iconst 1, 1) := by decide +kernel
theorem dX8_remove_101 : decode cX8_remove 101 = .ok (.iadd, 1) := by decide +kernel
theorem dX8_remove_102 : decode cX8_remove 102 = .ok (.iaload, 1) := by decide +kernel
theorem dX8_remove_103 : decode cX8_remove 103 = .ok (.iastore, 1) := by decide +kernel
theorem dX8_remove_104 : decode cX8_remove 104 = .ok (.iconst 0, 1) := by decide +kernel
theorem dX8_remove_105 : decode cX8_remove 105 = .ok (.istore_n 3, 1) := by decide +kernel
theorem dX8_remove_106 : decode cX8_remove 106 = .ok (.iload_n 3, 1) := by decide +kernel
theorem dX8_remove_107 : decode cX8_remove 107 = .ok (.iconst 4, 1) := by decide +kernel
theorem dX8_remove_108 : decode cX8_remove 108 = .ok (.if_icmp .ge 33, 3) := by decide +kernel
theorem dX8_remove_111 : decode cX8_remove 111 = .ok (.aload_n 0, 1) := by decide +kernel
theorem dX8_remove_112 : decode cX8_remove 112 = .ok (.getfield 7, 3) := by decide +kernel
theorem dX8_remove_115 : decode cX8_remove 115 = .ok (.iload_n 2, 1) := by decide +kernel
theorem dX8_remove_116 : decode cX8_remove 116 = .ok (.invokestatic 56, 3) := by decide +kernel
theorem dX8_remove_119 : decode cX8_remove 119 = .ok (.iload_n 3, 1) := by decide +kernel
theorem dX8_remove_120 : decode cX8_remove 120 = .ok (.iadd, 1) := by decide +kernel
theorem dX8_remove_121 : decode cX8_remove 121 = .ok (.aload_n 0, 1) := by decide +kernel
theorem dX8_remove_122 : decode cX8_remove 122 = .ok (.getfield 7, 3) := by decide +kernel
theorem dX8_remove_125 : decode cX8_remove 125 = .ok (.iload_n 2, 1) := by decide +kernel
theorem dX8_remove_126 : decode cX8_remove 126 = .ok (.iconst 1, 1) := by decide +kernel
theorem dX8_remove_127 : decode cX8_remove 127 = .ok (.iadd, 1) := by decide +kernel
theorem dX8_remove_128 : decode cX8_remove 128 = .ok (.invokestatic 56, 3) := by decide +kernel
theorem dX8_remove_131 : decode cX8_remove 131 = .ok (.iload_n 3, 1) := by decide +kernel
theorem dX8_remove_132 : decode cX8_remove 132 = .ok (.iadd, 1) := by decide +kernel
theorem dX8_remove_133 : decode cX8_remove 133 = .ok (.iaload, 1) := by decide +kernel
theorem dX8_remove_134 : decode cX8_remove 134 = .ok (.iastore, 1) := by decide +kernel
theorem dX8_remove_135 : decode cX8_remove 135 = .ok (.iinc 3 1, 3) := by decide +kernel
theorem dX8_remove_138 : decode cX8_remove 138 = .ok (.goto (-32), 3) := by decide +kernel
theorem dX8_remove_141 : decode cX8_remove 141 = .ok (.iinc 2 1, 3) := by decide +kernel
theorem dX8_remove_144 : decode cX8_remove 144 = .ok (.goto (-88), 3) := by decide +kernel
theorem dX8_remove_147 : decode cX8_remove 147 = .ok (.iconst 0, 1) := by decide +kernel
theorem dX8_remove_148 : decode cX8_remove 148 = .ok (.istore_n 2, 1) := by decide +kernel
theorem dX8_remove_149 : decode cX8_remove 149 = .ok (.iload_n 2, 1) := by decide +kernel
theorem dX8_remove_150 : decode cX8_remove 150 = .ok (.aload_n 0, 1) := by decide +kernel
theorem dX8_remove_151 : decode cX8_remove 151 = .ok (.getfield 7, 3) := by decide +kernel
theorem dX8_remove_154 : decode cX8_remove 154 = .ok (.iconst 0, 1) := by decide +kernel
theorem dX8_remove_155 : decode cX8_remove 155 = .ok (.iaload, 1) := by decide +kernel
theorem dX8_remove_156 : decode cX8_remove 156 = .ok (.if_icmp .ge 31, 3) := by decide +kernel
theorem dX8_remove_159 : decode cX8_remove 159 = .ok (.aload_n 0, 1) := by decide +kernel
theorem dX8_remove_160 : decode cX8_remove 160 = .ok (.getfield 7, 3) := by decide +kernel
theorem dX8_remove_163 : decode cX8_remove 163 = .ok (.bipush 10, 2) := by decide +kernel
theorem dX8_remove_165 : decode cX8_remove 165 = .ok (.iload_n 2, 1) := by decide +kernel
theorem dX8_remove_166 : decode cX8_remove 166 = .ok (.iadd, 1) := by decide +kernel
theorem dX8_remove_167 : decode cX8_remove 167 = .ok (.aload_n 0, 1) := by decide +kernel
theorem dX8_remove_168 : decode cX8_remove 168 = .ok (.getfield 7, 3) := by decide +kernel
theorem dX8_remove_171 : decode cX8_remove 171 = .ok (.bipush 10, 2) := by decide +kernel
theorem dX8_remove_173 : decode cX8_remove 173 = .ok (.iload_n 2, 1) := by decide +kernel
theorem dX8_remove_174 : decode cX8_remove 174 = .ok (.iadd, 1) := by decide +kernel
theorem dX8_remove_175 : decode cX8_remove 175 = .ok (.iaload, 1) := by decide +kernel
theorem dX8_remove_176 : decode cX8_remove 176 = .ok (.iload_n 1, 1) := by decide +kernel
theorem dX8_remove_177 : decode cX8_remove 177 = .ok (.invokestatic 123, 3) := by decide +kernel
theorem dX8_remove_180 : decode cX8_remove 180 = .ok (.iastore, 1) := by decide +kernel
theorem dX8_remove_181 : decode cX8_remove 181 = .ok (.iinc 2 1, 3) := by decide +kernel
theorem dX8_remove_184 : decode cX8_remove 184 = .ok (.goto (-35), 3) := by decide +kernel
theorem dX8_remove_187 : decode cX8_remove 187 = .ok (.aload_n 0, 1) := by decide +kernel
theorem dX8_remove_188 : decode cX8_remove 188 = .ok (.invokevirtual 126, 3) := by decide +kernel
theorem dX8_remove_191 : decode cX8_remove 191 = .ok (.aload_n 0, 1) := by decide +kernel
theorem dX8_remove_192 : decode cX8_remove 192 = .ok (.getfield 7, 3) := by decide +kernel
theorem dX8_remove_195 : decode cX8_remove 195 = .ok (.iconst 0, 1) := by decide +kernel
theorem dX8_remove_196 : decode cX8_remove 196 = .ok (.iaload, 1) := by decide +kernel
theorem dX8_remove_197 : decode cX8_remove 197 = .ok (.ireturn, 1) := by decide +kernel
theorem dX8_clearBehind_0 : decode cX8_clearBehind 0 = .ok (.aload_n 0, 1) := by decide +kernel
theorem dX8_clearBehind_1 : decode cX8_clearBehind 1 = .ok (.getfield 7, 3) := by decide +kernel
theorem dX8_clearBehind_4 : decode cX8_clearBehind 4 = .ok (.iconst 0, 1) := by decide +kernel
theorem dX8_clearBehind_5 : decode cX8_clearBehind 5 = .ok (.iaload, 1) := by decide +kernel
theorem dX8_clearBehind_6 : decode cX8_clearBehind 6 = .ok (.istore_n 1, 1) := by decide +kernel
theorem dX8_clearBehind_7 : decode cX8_clearBehind 7 = .ok (.iload_n 1, 1) := by decide +kernel
theorem dX8_clearBehind_8 : decode cX8_clearBehind 8 = .ok (.bipush 8, 2) := by decide +kernel
theorem dX8_clearBehind_10 : decode cX8_clearBehind 10 = .ok (.if_icmp .ge 53, 3) := by decide +kernel
theorem dX8_clearBehind_13 : decode cX8_clearBehind 13 = .ok (.aload_n 0, 1) := by decide +kernel
theorem dX8_clearBehind_14 : decode cX8_clearBehind 14 = .ok (.getfield 7, 3) := by decide +kernel
theorem dX8_clearBehind_17 : decode cX8_clearBehind 17 = .ok (.iconst 2, 1) := by decide +kernel
theorem dX8_clearBehind_18 : decode cX8_clearBehind 18 = .ok (.iload_n 1, 1) := by decide +kernel
theorem dX8_clearBehind_19 : decode cX8_clearBehind 19 = .ok (.iadd, 1) := by decide +kernel
theorem dX8_clearBehind_20 : decode cX8_clearBehind 20 = .ok (.iconst 0, 1) := by decide +kernel
theorem dX8_clearBehind_21 : decode cX8_clearBehind 21 = .ok (.iastore, 1) := by decide +kernel
theorem dX8_clearBehind_22 : decode cX8_clearBehind 22 = .ok (.aload_n 0, 1) := by decide +kernel
theorem dX8_clearBehind_23 : decode cX8_clearBehind 23 = .ok (.getfield 7, 3) := by decide +kernel
theorem dX8_clearBehind_26 : decode cX8_clearBehind 26 = .ok (.bipush 10, 2) := by decide +kernel
theorem dX8_clearBehind_28 : decode cX8_clearBehind 28 = .ok (.iload_n 1, 1) := by decide +kernel
theorem dX8_clearBehind_29 : decode cX8_clearBehind 29 = .ok (.iadd, 1) := by decide +kernel
theorem dX8_clearBehind_30 : decode cX8_clearBehind 30 = .ok (.iconst 0, 1) := by decide +kernel
theorem dX8_clearBehind_31 : decode cX8_clearBehind 31 = .ok (.iastore, 1) := by decide +kernel
theorem dX8_clearBehind_32 : decode cX8_clearBehind 32 = .ok (.iconst 0, 1) := by decide +kernel
theorem dX8_clearBehind_33 : decode cX8_clearBehind 33 = .ok (.istore_n 2, 1) := by decide +kernel
theorem dX8_clearBehind_34 : decode cX8_clearBehind 34 = .ok (.iload_n 2, 1) := by decide +kernel
theorem dX8_clearBehind_35 : decode cX8_clearBehind 35 = .ok (.iconst 4, 1) := by decide +kernel
theorem dX8_clearBehind_36 : decode cX8_clearBehind 36 = .ok (.if_icmp .ge 21, 3) := by decide +kernel
theorem dX8_clearBehind_39 : decode cX8_clearBehind 39 = .ok (.aload_n 0, 1) := by decide +kernel
theorem dX8_clearBehind_40 : decode cX8_clearBehind 40 = .ok (.getfield 7, 3) := by decide +kernel
theorem dX8_clearBehind_43 : decode cX8_clearBehind 43 = .ok (.iload_n 1, 1) := by decide +kernel
theorem dX8_clearBehind_44 : decode cX8_clearBehind 44 = .ok (.invokestatic 56, 3) := by decide +kernel
theorem dX8_clearBehind_47 : decode cX8_clearBehind 47 = .ok (.iload_n 2, 1) := by decide +kernel
theorem dX8_clearBehind_48 : decode cX8_clearBehind 48 = .ok (.iadd, 1) := by decide +kernel
theorem dX8_clearBehind_49 : decode cX8_clearBehind 49 = .ok (.iconst 0, 1) := by decide +kernel
theorem dX8_clearBehind_50 : decode cX8_clearBehind 50 = .ok (.iastore, 1) := by decide +kernel
theorem dX8_clearBehind_51 : decode cX8_clearBehind 51 = .ok (.iinc 2 1, 3) := by decide +kernel
theorem dX8_clearBehind_54 : decode cX8_clearBehind 54 = .ok (.goto (-20), 3) := by decide +kernel
theorem dX8_clearBehind_57 : decode cX8_clearBehind 57 = .ok (.iinc 1 1, 3) := by decide +kernel
theorem dX8_clearBehind_60 : decode cX8_clearBehind 60 = .ok (.goto (-53), 3) := by decide +kernel
theorem dX8_clearBehind_63 : decode cX8_clearBehind 63 = .ok (.return_, 1) := by decide +kernel
theorem dX8_other_0 : decode cX8_other 0 = .ok (.aload_n 0, 1) := by decide +kernel
theorem dX8_other_1 : decode cX8_other 1 = .ok (.getfield 16, 3) := by decide +kernel
theorem dX8_other_4 : decode cX8_other 4 = .ok (.bipush 55, 2) := by decide +kernel
theorem dX8_other_6 : decode cX8_other 6 = .ok (.iload_n 1, 1) := by decide +kernel
theorem dX8_other_7 : decode cX8_other 7 = .ok (.imul, 1) := by decide +kernel
theorem dX8_other_8 : decode cX8_other 8 = .ok (.iload_n 2, 1) := by decide +kernel
theorem dX8_other_9 : decode cX8_other 9 = .ok (.iadd, 1) := by decide +kernel
theorem dX8_other_10 : decode cX8_other 10 = .ok (.iaload, 1) := by decide +kernel
theorem dX8_other_11 : decode cX8_other 11 = .ok (.ireturn, 1) := by decide +kernel
theorem dX8_layProduct_0 : decode cX8_layProduct 0 = .ok (.aload_n 0, 1) := by decide +kernel
theorem dX8_layProduct_1 : decode cX8_layProduct 1 = .ok (.iload_n 1, 1) := by decide +kernel
theorem dX8_layProduct_2 : decode cX8_layProduct 2 = .ok (.iconst 0, 1) := by decide +kernel
theorem dX8_layProduct_3 : decode cX8_layProduct 3 = .ok (.invokevirtual 129, 3) := by decide +kernel
theorem dX8_layProduct_6 : decode cX8_layProduct 6 = .ok (.istore_n 2, 1) := by decide +kernel
theorem dX8_layProduct_7 : decode cX8_layProduct 7 = .ok (.aload_n 0, 1) := by decide +kernel
theorem dX8_layProduct_8 : decode cX8_layProduct 8 = .ok (.iload_n 1, 1) := by decide +kernel
theorem dX8_layProduct_9 : decode cX8_layProduct 9 = .ok (.iconst 1, 1) := by decide +kernel
theorem dX8_layProduct_10 : decode cX8_layProduct 10 = .ok (.invokevirtual 129, 3) := by decide +kernel
theorem dX8_layProduct_13 : decode cX8_layProduct 13 = .ok (.istore_n 3, 1) := by decide +kernel
theorem dX8_layProduct_14 : decode cX8_layProduct 14 = .ok (.aload_n 0, 1) := by decide +kernel
theorem dX8_layProduct_15 : decode cX8_layProduct 15 = .ok (.getfield 7, 3) := by decide +kernel
theorem dX8_layProduct_18 : decode cX8_layProduct 18 = .ok (.iconst 0, 1) := by decide +kernel
theorem dX8_layProduct_19 : decode cX8_layProduct 19 = .ok (.iaload, 1) := by decide +kernel
theorem dX8_layProduct_20 : decode cX8_layProduct 20 = .ok (.iload_n 2, 1) := by decide +kernel
theorem dX8_layProduct_21 : decode cX8_layProduct 21 = .ok (.imul, 1) := by decide +kernel
theorem dX8_layProduct_22 : decode cX8_layProduct 22 = .ok (.bipush 8, 2) := by decide +kernel
theorem dX8_layProduct_24 : decode cX8_layProduct 24 = .ok (.if_icmp .le 5, 3) := by decide +kernel
theorem dX8_layProduct_27 : decode cX8_layProduct 27 = .ok (.iconst 1, 1) := by decide +kernel
theorem dX8_layProduct_28 : decode cX8_layProduct 28 = .ok (.ireturn, 1) := by decide +kernel
theorem dX8_layProduct_29 : decode cX8_layProduct 29 = .ok (.aload_n 0, 1) := by decide +kernel
theorem dX8_layProduct_30 : decode cX8_layProduct 30 = .ok (.getfield 7, 3) := by decide +kernel
theorem dX8_layProduct_33 : decode cX8_layProduct 33 = .ok (.iconst 1, 1) := by decide +kernel
theorem dX8_layProduct_34 : decode cX8_layProduct 34 = .ok (.iaload, 1) := by decide +kernel
theorem dX8_layProduct_35 : decode cX8_layProduct 35 = .ok (.iload_n 3, 1) := by decide +kernel
theorem dX8_layProduct_36 : decode cX8_layProduct 36 = .ok (.imul, 1) := by decide +kernel
theorem dX8_layProduct_37 : decode cX8_layProduct 37 = .ok (.iconst 4, 1) := by decide +kernel
theorem dX8_layProduct_38 : decode cX8_layProduct 38 = .ok (.if_icmp .le 5, 3) := by decide +kernel
theorem dX8_layProduct_41 : decode cX8_layProduct 41 = .ok (.iconst 2, 1) := by decide +kernel
theorem dX8_layProduct_42 : decode cX8_layProduct 42 = .ok (.ireturn, 1) := by decide +kernel
theorem dX8_layProduct_43 : decode cX8_layProduct 43 = .ok (.iconst 1, 1) := by decide +kernel
theorem dX8_layProduct_44 : decode cX8_layProduct 44 = .ok (.istore 4, 2) := by decide +kernel
theorem dX8_layProduct_46 : decode cX8_layProduct 46 = .ok (.iconst 1, 1) := by decide +kernel
theorem dX8_layProduct_47 : decode cX8_layProduct 47 = .ok (.istore 5, 2) := by decide +kernel
theorem dX8_layProduct_49 : decode cX8_layProduct 49 = .ok (.iconst 0, 1) := by decide +kernel
theorem dX8_layProduct_50 : decode cX8_layProduct 50 = .ok (.istore 6, 2) := by decide +kernel
theorem dX8_layProduct_52 : decode cX8_layProduct 52 = .ok (.iload 6, 2) := by decide +kernel
theorem dX8_layProduct_54 : decode cX8_layProduct 54 = .ok (.bipush 55, 2) := by decide +kernel
theorem dX8_layProduct_56 : decode cX8_layProduct 56 = .ok (.if_icmp .ge 17, 3) := by decide +kernel
theorem dX8_layProduct_59 : decode cX8_layProduct 59 = .ok (.aload_n 0, 1) := by decide +kernel
theorem dX8_layProduct_60 : decode cX8_layProduct 60 = .ok (.getfield 28, 3) := by decide +kernel
theorem dX8_layProduct_63 : decode cX8_layProduct 63 = .ok (.iload 6, 2) := by decide +kernel
theorem dX8_layProduct_65 : decode cX8_layProduct 65 = .ok (.iconst 0, 1) := by decide +kernel
theorem dX8_layProduct_66 : decode cX8_layProduct 66 = .ok (.iastore, 1) := by decide +kernel
theorem dX8_layProduct_67 : decode cX8_layProduct 67 = .ok (.iinc 6 1, 3) := by decide +kernel
theorem dX8_layProduct_70 : decode cX8_layProduct 70 = .ok (.goto (-18), 3) := by decide +kernel
theorem dX8_layProduct_73 : decode cX8_layProduct 73 = .ok (.aload_n 0, 1) := by decide +kernel
theorem dX8_layProduct_74 : decode cX8_layProduct 74 = .ok (.getfield 28, 3) := by decide +kernel
theorem dX8_layProduct_77 : decode cX8_layProduct 77 = .ok (.iconst 0, 1) := by decide +kernel
theorem dX8_layProduct_78 : decode cX8_layProduct 78 = .ok (.aload_n 0, 1) := by decide +kernel
theorem dX8_layProduct_79 : decode cX8_layProduct 79 = .ok (.getfield 7, 3) := by decide +kernel
theorem dX8_layProduct_82 : decode cX8_layProduct 82 = .ok (.iconst 0, 1) := by decide +kernel
theorem dX8_layProduct_83 : decode cX8_layProduct 83 = .ok (.iaload, 1) := by decide +kernel
theorem dX8_layProduct_84 : decode cX8_layProduct 84 = .ok (.iload_n 2, 1) := by decide +kernel
theorem dX8_layProduct_85 : decode cX8_layProduct 85 = .ok (.imul, 1) := by decide +kernel
theorem dX8_layProduct_86 : decode cX8_layProduct 86 = .ok (.iastore, 1) := by decide +kernel
theorem dX8_layProduct_87 : decode cX8_layProduct 87 = .ok (.aload_n 0, 1) := by decide +kernel
theorem dX8_layProduct_88 : decode cX8_layProduct 88 = .ok (.getfield 28, 3) := by decide +kernel
theorem dX8_layProduct_91 : decode cX8_layProduct 91 = .ok (.iconst 1, 1) := by decide +kernel
theorem dX8_layProduct_92 : decode cX8_layProduct 92 = .ok (.aload_n 0, 1) := by decide +kernel
theorem dX8_layProduct_93 : decode cX8_layProduct 93 = .ok (.getfield 7, 3) := by decide +kernel
theorem dX8_layProduct_96 : decode cX8_layProduct 96 = .ok (.iconst 1, 1) := by decide +kernel
theorem dX8_layProduct_97 : decode cX8_layProduct 97 = .ok (.iaload, 1) := by decide +kernel
theorem dX8_layProduct_98 : decode cX8_layProduct 98 = .ok (.iload_n 3, 1) := by decide +kernel
theorem dX8_layProduct_99 : decode cX8_layProduct 99 = .ok (.imul, 1) := by decide +kernel
theorem dX8_layProduct_100 : decode cX8_layProduct 100 = .ok (.iastore, 1) := by decide +kernel
theorem dX8_layProduct_101 : decode cX8_layProduct 101 = .ok (.iconst 0, 1) := by decide +kernel
theorem dX8_layProduct_102 : decode cX8_layProduct 102 = .ok (.istore 6, 2) := by decide +kernel
theorem dX8_layProduct_104 : decode cX8_layProduct 104 = .ok (.iload 6, 2) := by decide +kernel
theorem dX8_layProduct_106 : decode cX8_layProduct 106 = .ok (.aload_n 0, 1) := by decide +kernel
theorem dX8_layProduct_107 : decode cX8_layProduct 107 = .ok (.getfield 28, 3) := by decide +kernel
theorem dX8_layProduct_110 : decode cX8_layProduct 110 = .ok (.iconst 0, 1) := by decide +kernel
theorem dX8_layProduct_111 : decode cX8_layProduct 111 = .ok (.iaload, 1) := by decide +kernel
theorem dX8_layProduct_112 : decode cX8_layProduct 112 = .ok (.if_icmp .ge 246, 3) := by decide +kernel
theorem dX8_layProduct_115 : decode cX8_layProduct 115 = .ok (.aload_n 0, 1) := by decide +kernel
theorem dX8_layProduct_116 : decode cX8_layProduct 116 = .ok (.getfield 28, 3) := by decide +kernel
theorem dX8_layProduct_119 : decode cX8_layProduct 119 = .ok (.iconst 2, 1) := by decide +kernel
theorem dX8_layProduct_120 : decode cX8_layProduct 120 = .ok (.iload 6, 2) := by decide +kernel
theorem dX8_layProduct_122 : decode cX8_layProduct 122 = .ok (.iadd, 1) := by decide +kernel
theorem dX8_layProduct_123 : decode cX8_layProduct 123 = .ok (.aload_n 0, 1) := by decide +kernel
theorem dX8_layProduct_124 : decode cX8_layProduct 124 = .ok (.iload 6, 2) := by decide +kernel
theorem dX8_layProduct_126 : decode cX8_layProduct 126 = .ok (.iload_n 2, 1) := by decide +kernel
theorem dX8_layProduct_127 : decode cX8_layProduct 127 = .ok (.idiv, 1) := by decide +kernel
theorem dX8_layProduct_128 : decode cX8_layProduct 128 = .ok (.invokevirtual 70, 3) := by decide +kernel
theorem dX8_layProduct_131 : decode cX8_layProduct 131 = .ok (.aload_n 0, 1) := by decide +kernel
theorem dX8_layProduct_132 : decode cX8_layProduct 132 = .ok (.iload_n 1, 1) := by decide +kernel
theorem dX8_layProduct_133 : decode cX8_layProduct 133 = .ok (.iconst 2, 1) := by decide +kernel
theorem dX8_layProduct_134 : decode cX8_layProduct 134 = .ok (.iload 6, 2) := by decide +kernel
theorem dX8_layProduct_136 : decode cX8_layProduct 136 = .ok (.iload_n 2, 1) := by decide +kernel
theorem dX8_layProduct_137 : decode cX8_layProduct 137 = .ok (.irem, 1) := by decide +kernel
theorem dX8_layProduct_138 : decode cX8_layProduct 138 = .ok (.iadd, 1) := by decide +kernel
theorem dX8_layProduct_139 : decode cX8_layProduct 139 = .ok (.invokevirtual 129, 3) := by decide +kernel
theorem dX8_layProduct_142 : decode cX8_layProduct 142 = .ok (.imul, 1) := by decide +kernel
theorem dX8_layProduct_143 : decode cX8_layProduct 143 = .ok (.iastore, 1) := by decide +kernel
theorem dX8_layProduct_144 : decode cX8_layProduct 144 = .ok (.iload 4, 2) := by decide +kernel
theorem dX8_layProduct_146 : decode cX8_layProduct 146 = .ok (.ifCond .eq 21, 3) := by decide +kernel
theorem dX8_layProduct_149 : decode cX8_layProduct 149 = .ok (.aload_n 0, 1) := by decide +kernel
theorem dX8_layProduct_150 : decode cX8_layProduct 150 = .ok (.getfield 28, 3) := by decide +kernel
theorem dX8_layProduct_153 : decode cX8_layProduct 153 = .ok (.iconst 2, 1) := by decide +kernel
theorem dX8_layProduct_154 : decode cX8_layProduct 154 = .ok (.iload 6, 2) := by decide +kernel
theorem dX8_layProduct_156 : decode cX8_layProduct 156 = .ok (.iadd, 1) := by decide +kernel
theorem dX8_layProduct_157 : decode cX8_layProduct 157 = .ok (.iaload, 1) := by decide +kernel
theorem dX8_layProduct_158 : decode cX8_layProduct 158 = .ok (.bipush 9, 2) := by decide +kernel
theorem dX8_layProduct_160 : decode cX8_layProduct 160 = .ok (.if_icmp .gt 7, 3) := by decide +kernel
theorem dX8_layProduct_163 : decode cX8_layProduct 163 = .ok (.iconst 1, 1) := by decide +kernel
theorem dX8_layProduct_164 : decode cX8_layProduct 164 = .ok (.goto 4, 3) := by decide +kernel
theorem dX8_layProduct_167 : decode cX8_layProduct 167 = .ok (.iconst 0, 1) := by decide +kernel
theorem dX8_layProduct_168 : decode cX8_layProduct 168 = .ok (.istore 4, 2) := by decide +kernel
theorem dX8_layProduct_170 : decode cX8_layProduct 170 = .ok (.iconst 0, 1) := by decide +kernel
theorem dX8_layProduct_171 : decode cX8_layProduct 171 = .ok (.istore 7, 2) := by decide +kernel
theorem dX8_layProduct_173 : decode cX8_layProduct 173 = .ok (.iload 7, 2) := by decide +kernel
theorem dX8_layProduct_175 : decode cX8_layProduct 175 = .ok (.aload_n 0, 1) := by decide +kernel
theorem dX8_layProduct_176 : decode cX8_layProduct 176 = .ok (.getfield 28, 3) := by decide +kernel
theorem dX8_layProduct_179 : decode cX8_layProduct 179 = .ok (.iconst 0, 1) := by decide +kernel
theorem dX8_layProduct_180 : decode cX8_layProduct 180 = .ok (.iaload, 1) := by decide +kernel
theorem dX8_layProduct_181 : decode cX8_layProduct 181 = .ok (.if_icmp .ge 79, 3) := by decide +kernel
theorem dX8_layProduct_184 : decode cX8_layProduct 184 = .ok (.aload_n 0, 1) := by decide +kernel
theorem dX8_layProduct_185 : decode cX8_layProduct 185 = .ok (.iload 6, 2) := by decide +kernel
theorem dX8_layProduct_187 : decode cX8_layProduct 187 = .ok (.iload_n 2, 1) := by decide +kernel
theorem dX8_layProduct_188 : decode cX8_layProduct 188 = .ok (.idiv, 1) := by decide +kernel
theorem dX8_layProduct_189 : decode cX8_layProduct 189 = .ok (.iload 7, 2) := by decide +kernel
theorem dX8_layProduct_191 : decode cX8_layProduct 191 = .ok (.iload_n 2, 1) := by decide +kernel
theorem dX8_layProduct_192 : decode cX8_layProduct 192 = .ok (.idiv, 1) := by decide +kernel
theorem dX8_layProduct_193 : decode cX8_layProduct 193 = .ok (.invokevirtual 67, 3) := by decide +kernel
theorem dX8_layProduct_196 : decode cX8_layProduct 196 = .ok (.ifCond .ne 25, 3) := by decide +kernel
theorem dX8_layProduct_199 : decode cX8_layProduct 199 = .ok (.aload_n 0, 1) := by decide +kernel
theorem dX8_layProduct_200 : decode cX8_layProduct 200 = .ok (.iload_n 1, 1) := by decide +kernel
theorem dX8_layProduct_201 : decode cX8_layProduct 201 = .ok (.bipush 10, 2) := by decide +kernel
theorem dX8_layProduct_203 : decode cX8_layProduct 203 = .ok (.iload 6, 2) := by decide +kernel
theorem dX8_layProduct_205 : decode cX8_layProduct 205 = .ok (.iload_n 2, 1) := by decide +kernel
theorem dX8_layProduct_206 : decode cX8_layProduct 206 = .ok (.irem, 1) := by decide +kernel
theorem dX8_layProduct_207 : decode cX8_layProduct 207 = .ok (.iadd, 1) := by decide +kernel
theorem dX8_layProduct_208 : decode cX8_layProduct 208 = .ok (.invokevirtual 129, 3) := by decide +kernel
theorem dX8_layProduct_211 : decode cX8_layProduct 211 = .ok (.iload 7, 2) := by decide +kernel
theorem dX8_layProduct_213 : decode cX8_layProduct 213 = .ok (.iload_n 2, 1) := by decide +kernel
theorem dX8_layProduct_214 : decode cX8_layProduct 214 = .ok (.irem, 1) := by decide +kernel
theorem dX8_layProduct_215 : decode cX8_layProduct 215 = .ok (.invokestatic 52, 3) := by decide +kernel
theorem dX8_layProduct_218 : decode cX8_layProduct 218 = .ok (.ifCond .eq 7, 3) := by decide +kernel
theorem dX8_layProduct_221 : decode cX8_layProduct 221 = .ok (.iconst 1, 1) := by decide +kernel
theorem dX8_layProduct_222 : decode cX8_layProduct 222 = .ok (.goto 4, 3) := by decide +kernel
theorem dX8_layProduct_225 : decode cX8_layProduct 225 = .ok (.iconst 0, 1) := by decide +kernel
theorem dX8_layProduct_226 : decode cX8_layProduct 226 = .ok (.istore 8, 2) := by decide +kernel
theorem dX8_layProduct_228 : decode cX8_layProduct 228 = .ok (.aload_n 0, 1) := by decide +kernel
theorem dX8_layProduct_229 : decode cX8_layProduct 229 = .ok (.getfield 28, 3) := by decide +kernel
theorem dX8_layProduct_232 : decode cX8_layProduct 232 = .ok (.bipush 10, 2) := by decide +kernel
theorem dX8_layProduct_234 : decode cX8_layProduct 234 = .ok (.iload 6, 2) := by decide +kernel
theorem dX8_layProduct_236 : decode cX8_layProduct 236 = .ok (.iadd, 1) := by decide +kernel
theorem dX8_layProduct_237 : decode cX8_layProduct 237 = .ok (.dup2, 1) := by decide +kernel
theorem dX8_layProduct_238 : decode cX8_layProduct 238 = .ok (.iaload, 1) := by decide +kernel
theorem dX8_layProduct_239 : decode cX8_layProduct 239 = .ok (.iload 8, 2) := by decide +kernel
theorem dX8_layProduct_241 : decode cX8_layProduct 241 = .ok (.ifCond .eq 10, 3) := by decide +kernel
theorem dX8_layProduct_244 : decode cX8_layProduct 244 = .ok (.iconst 1, 1) := by decide +kernel
theorem dX8_layProduct_245 : decode cX8_layProduct 245 = .ok (.iload 7, 2) := by decide +kernel
theorem dX8_layProduct_247 : decode cX8_layProduct 247 = .ok (.ishl, 1) := by decide +kernel
theorem dX8_layProduct_248 : decode cX8_layProduct 248 = .ok (.goto 4, 3) := by decide +kernel
theorem dX8_layProduct_251 : decode cX8_layProduct 251 = .ok (.iconst 0, 1) := by decide +kernel
theorem dX8_layProduct_252 : decode cX8_layProduct 252 = .ok (.ior, 1) := by decide +kernel
theorem dX8_layProduct_253 : decode cX8_layProduct 253 = .ok (.iastore, 1) := by decide +kernel
theorem dX8_layProduct_254 : decode cX8_layProduct 254 = .ok (.iinc 7 1, 3) := by decide +kernel
theorem dX8_layProduct_257 : decode cX8_layProduct 257 = .ok (.goto (-84), 3) := by decide +kernel
theorem dX8_layProduct_260 : decode cX8_layProduct 260 = .ok (.iconst 0, 1) := by decide +kernel
theorem dX8_layProduct_261 : decode cX8_layProduct 261 = .ok (.istore 7, 2) := by decide +kernel
theorem dX8_layProduct_263 : decode cX8_layProduct 263 = .ok (.iload 7, 2) := by decide +kernel
theorem dX8_layProduct_265 : decode cX8_layProduct 265 = .ok (.aload_n 0, 1) := by decide +kernel
theorem dX8_layProduct_266 : decode cX8_layProduct 266 = .ok (.getfield 28, 3) := by decide +kernel
theorem dX8_layProduct_269 : decode cX8_layProduct 269 = .ok (.iconst 1, 1) := by decide +kernel
theorem dX8_layProduct_270 : decode cX8_layProduct 270 = .ok (.iaload, 1) := by decide +kernel
theorem dX8_layProduct_271 : decode cX8_layProduct 271 = .ok (.if_icmp .ge 81, 3) := by decide +kernel
theorem dX8_layProduct_274 : decode cX8_layProduct 274 = .ok (.aload_n 0, 1) := by decide +kernel
theorem dX8_layProduct_275 : decode cX8_layProduct 275 = .ok (.getfield 7, 3) := by decide +kernel
theorem dX8_layProduct_278 : decode cX8_layProduct 278 = .ok (.iload 6, 2) := by decide +kernel
theorem dX8_layProduct_280 : decode cX8_layProduct 280 = .ok (.iload_n 2, 1) := by decide +kernel
theorem dX8_layProduct_281 : decode cX8_layProduct 281 = .ok (.idiv, 1) := by decide +kernel
theorem dX8_layProduct_282 : decode cX8_layProduct 282 = .ok (.invokestatic 56, 3) := by decide +kernel
theorem dX8_layProduct_285 : decode cX8_layProduct 285 = .ok (.iload 7, 2) := by decide +kernel
theorem dX8_layProduct_287 : decode cX8_layProduct 287 = .ok (.iload_n 3, 1) := by decide +kernel
theorem dX8_layProduct_288 : decode cX8_layProduct 288 = .ok (.idiv, 1) := by decide +kernel
theorem dX8_layProduct_289 : decode cX8_layProduct 289 = .ok (.iadd, 1) := by decide +kernel
theorem dX8_layProduct_290 : decode cX8_layProduct 290 = .ok (.iaload, 1) := by decide +kernel
theorem dX8_layProduct_291 : decode cX8_layProduct 291 = .ok (.aload_n 0, 1) := by decide +kernel
theorem dX8_layProduct_292 : decode cX8_layProduct 292 = .ok (.iload_n 1, 1) := by decide +kernel
theorem dX8_layProduct_293 : decode cX8_layProduct 293 = .ok (.iload 6, 2) := by decide +kernel
theorem dX8_layProduct_295 : decode cX8_layProduct 295 = .ok (.iload_n 2, 1) := by decide +kernel
theorem dX8_layProduct_296 : decode cX8_layProduct 296 = .ok (.irem, 1) := by decide +kernel
theorem dX8_layProduct_297 : decode cX8_layProduct 297 = .ok (.invokestatic 56, 3) := by decide +kernel
theorem dX8_layProduct_300 : decode cX8_layProduct 300 = .ok (.iload 7, 2) := by decide +kernel
theorem dX8_layProduct_302 : decode cX8_layProduct 302 = .ok (.iload_n 3, 1) := by decide +kernel
theorem dX8_layProduct_303 : decode cX8_layProduct 303 = .ok (.irem, 1) := by decide +kernel
theorem dX8_layProduct_304 : decode cX8_layProduct 304 = .ok (.iadd, 1) := by decide +kernel
theorem dX8_layProduct_305 : decode cX8_layProduct 305 = .ok (.invokevirtual 129, 3) := by decide +kernel
theorem dX8_layProduct_308 : decode cX8_layProduct 308 = .ok (.imul, 1) := by decide +kernel
theorem dX8_layProduct_309 : decode cX8_layProduct 309 = .ok (.istore 8, 2) := by decide +kernel
theorem dX8_layProduct_311 : decode cX8_layProduct 311 = .ok (.aload_n 0, 1) := by decide +kernel
theorem dX8_layProduct_312 : decode cX8_layProduct 312 = .ok (.getfield 28, 3) := by decide +kernel
theorem dX8_layProduct_315 : decode cX8_layProduct 315 = .ok (.iload 6, 2) := by decide +kernel
theorem dX8_layProduct_317 : decode cX8_layProduct 317 = .ok (.invokestatic 56, 3) := by decide +kernel
theorem dX8_layProduct_320 : decode cX8_layProduct 320 = .ok (.iload 7, 2) := by decide +kernel
theorem dX8_layProduct_322 : decode cX8_layProduct 322 = .ok (.iadd, 1) := by decide +kernel
theorem dX8_layProduct_323 : decode cX8_layProduct 323 = .ok (.iload 8, 2) := by decide +kernel
theorem dX8_layProduct_325 : decode cX8_layProduct 325 = .ok (.iastore, 1) := by decide +kernel
theorem dX8_layProduct_326 : decode cX8_layProduct 326 = .ok (.iload 5, 2) := by decide +kernel
theorem dX8_layProduct_328 : decode cX8_layProduct 328 = .ok (.ifCond .eq 15, 3) := by decide +kernel
theorem dX8_layProduct_331 : decode cX8_layProduct 331 = .ok (.iload 8, 2) := by decide +kernel
theorem dX8_layProduct_333 : decode cX8_layProduct 333 = .ok (.invokestatic 132, 3) := by decide +kernel
theorem dX8_layProduct_336 : decode cX8_layProduct 336 = .ok (.ifCond .eq 7, 3) := by decide +kernel
theorem dX8_layProduct_339 : decode cX8_layProduct 339 = .ok (.iconst 1, 1) := by decide +kernel
theorem dX8_layProduct_340 : decode cX8_layProduct 340 = .ok (.goto 4, 3) := by decide +kernel
theorem dX8_layProduct_343 : decode cX8_layProduct 343 = .ok (.iconst 0, 1) := by decide +kernel
theorem dX8_layProduct_344 : decode cX8_layProduct 344 = .ok (.istore 5, 2) := by decide +kernel
theorem dX8_layProduct_346 : decode cX8_layProduct 346 = .ok (.iinc 7 1, 3) := by decide +kernel
theorem dX8_layProduct_349 : decode cX8_layProduct 349 = .ok (.goto (-86), 3) := by decide +kernel
theorem dX8_layProduct_352 : decode cX8_layProduct 352 = .ok (.iinc 6 1, 3) := by decide +kernel
theorem dX8_layProduct_355 : decode cX8_layProduct 355 = .ok (.goto (-251), 3) := by decide +kernel
theorem dX8_layProduct_358 : decode cX8_layProduct 358 = .ok (.iconst 0, 1) := by decide +kernel
theorem dX8_layProduct_359 : decode cX8_layProduct 359 = .ok (.istore 6, 2) := by decide +kernel
theorem dX8_layProduct_361 : decode cX8_layProduct 361 = .ok (.iload 6, 2) := by decide +kernel
theorem dX8_layProduct_363 : decode cX8_layProduct 363 = .ok (.aload_n 0, 1) := by decide +kernel
theorem dX8_layProduct_364 : decode cX8_layProduct 364 = .ok (.getfield 28, 3) := by decide +kernel
theorem dX8_layProduct_367 : decode cX8_layProduct 367 = .ok (.iconst 1, 1) := by decide +kernel
theorem dX8_layProduct_368 : decode cX8_layProduct 368 = .ok (.iaload, 1) := by decide +kernel
theorem dX8_layProduct_369 : decode cX8_layProduct 369 = .ok (.if_icmp .ge 72, 3) := by decide +kernel
theorem dX8_layProduct_372 : decode cX8_layProduct 372 = .ok (.aload_n 0, 1) := by decide +kernel
theorem dX8_layProduct_373 : decode cX8_layProduct 373 = .ok (.getfield 28, 3) := by decide +kernel
theorem dX8_layProduct_376 : decode cX8_layProduct 376 = .ok (.bipush 50, 2) := by decide +kernel
theorem dX8_layProduct_378 : decode cX8_layProduct 378 = .ok (.iload 6, 2) := by decide +kernel
theorem dX8_layProduct_380 : decode cX8_layProduct 380 = .ok (.iadd, 1) := by decide +kernel
theorem dX8_layProduct_381 : decode cX8_layProduct 381 = .ok (.aload_n 0, 1) := by decide +kernel
theorem dX8_layProduct_382 : decode cX8_layProduct 382 = .ok (.getfield 7, 3) := by decide +kernel
theorem dX8_layProduct_385 : decode cX8_layProduct 385 = .ok (.bipush 50, 2) := by decide +kernel
theorem dX8_layProduct_387 : decode cX8_layProduct 387 = .ok (.iload 6, 2) := by decide +kernel
theorem dX8_layProduct_389 : decode cX8_layProduct 389 = .ok (.iload_n 3, 1) := by decide +kernel
theorem dX8_layProduct_390 : decode cX8_layProduct 390 = .ok (.idiv, 1) := by decide +kernel
theorem dX8_layProduct_391 : decode cX8_layProduct 391 = .ok (.iadd, 1) := by decide +kernel
theorem dX8_layProduct_392 : decode cX8_layProduct 392 = .ok (.iaload, 1) := by decide +kernel
theorem dX8_layProduct_393 : decode cX8_layProduct 393 = .ok (.aload_n 0, 1) := by decide +kernel
theorem dX8_layProduct_394 : decode cX8_layProduct 394 = .ok (.iload_n 1, 1) := by decide +kernel
theorem dX8_layProduct_395 : decode cX8_layProduct 395 = .ok (.bipush 50, 2) := by decide +kernel
theorem dX8_layProduct_397 : decode cX8_layProduct 397 = .ok (.iload 6, 2) := by decide +kernel
theorem dX8_layProduct_399 : decode cX8_layProduct 399 = .ok (.iload_n 3, 1) := by decide +kernel
theorem dX8_layProduct_400 : decode cX8_layProduct 400 = .ok (.irem, 1) := by decide +kernel
theorem dX8_layProduct_401 : decode cX8_layProduct 401 = .ok (.iadd, 1) := by decide +kernel
theorem dX8_layProduct_402 : decode cX8_layProduct 402 = .ok (.invokevirtual 129, 3) := by decide +kernel
theorem dX8_layProduct_405 : decode cX8_layProduct 405 = .ok (.imul, 1) := by decide +kernel
theorem dX8_layProduct_406 : decode cX8_layProduct 406 = .ok (.iastore, 1) := by decide +kernel
theorem dX8_layProduct_407 : decode cX8_layProduct 407 = .ok (.iload 5, 2) := by decide +kernel
theorem dX8_layProduct_409 : decode cX8_layProduct 409 = .ok (.ifCond .eq 23, 3) := by decide +kernel
theorem dX8_layProduct_412 : decode cX8_layProduct 412 = .ok (.aload_n 0, 1) := by decide +kernel
theorem dX8_layProduct_413 : decode cX8_layProduct 413 = .ok (.getfield 28, 3) := by decide +kernel
theorem dX8_layProduct_416 : decode cX8_layProduct 416 = .ok (.bipush 50, 2) := by decide +kernel
theorem dX8_layProduct_418 : decode cX8_layProduct 418 = .ok (.iload 6, 2) := by decide +kernel
theorem dX8_layProduct_420 : decode cX8_layProduct 420 = .ok (.iadd, 1) := by decide +kernel
theorem dX8_layProduct_421 : decode cX8_layProduct 421 = .ok (.iaload, 1) := by decide +kernel
theorem dX8_layProduct_422 : decode cX8_layProduct 422 = .ok (.invokestatic 132, 3) := by decide +kernel
theorem dX8_layProduct_425 : decode cX8_layProduct 425 = .ok (.ifCond .eq 7, 3) := by decide +kernel
theorem dX8_layProduct_428 : decode cX8_layProduct 428 = .ok (.iconst 1, 1) := by decide +kernel
theorem dX8_layProduct_429 : decode cX8_layProduct 429 = .ok (.goto 4, 3) := by decide +kernel
theorem dX8_layProduct_432 : decode cX8_layProduct 432 = .ok (.iconst 0, 1) := by decide +kernel
theorem dX8_layProduct_433 : decode cX8_layProduct 433 = .ok (.istore 5, 2) := by decide +kernel
theorem dX8_layProduct_435 : decode cX8_layProduct 435 = .ok (.iinc 6 1, 3) := by decide +kernel
theorem dX8_layProduct_438 : decode cX8_layProduct 438 = .ok (.goto (-77), 3) := by decide +kernel
theorem dX8_layProduct_441 : decode cX8_layProduct 441 = .ok (.iload 4, 2) := by decide +kernel
theorem dX8_layProduct_443 : decode cX8_layProduct 443 = .ok (.ifCond .ne 7, 3) := by decide +kernel
theorem dX8_layProduct_446 : decode cX8_layProduct 446 = .ok (.iconst 3, 1) := by decide +kernel
theorem dX8_layProduct_447 : decode cX8_layProduct 447 = .ok (.goto 13, 3) := by decide +kernel
theorem dX8_layProduct_450 : decode cX8_layProduct 450 = .ok (.iload 5, 2) := by decide +kernel
theorem dX8_layProduct_452 : decode cX8_layProduct 452 = .ok (.ifCond .ne 7, 3) := by decide +kernel
theorem dX8_layProduct_455 : decode cX8_layProduct 455 = .ok (.iconst 4, 1) := by decide +kernel
theorem dX8_layProduct_456 : decode cX8_layProduct 456 = .ok (.goto 4, 3) := by decide +kernel
theorem dX8_layProduct_459 : decode cX8_layProduct 459 = .ok (.iconst 0, 1) := by decide +kernel
theorem dX8_layProduct_460 : decode cX8_layProduct 460 = .ok (.ireturn, 1) := by decide +kernel
theorem dX8_isSnapshot_0 : decode cX8_isSnapshot 0 = .ok (.iload_n 0, 1) := by decide +kernel
theorem dX8_isSnapshot_1 : decode cX8_isSnapshot 1 = .ok (.iconst 0, 1) := by decide +kernel
theorem dX8_isSnapshot_2 : decode cX8_isSnapshot 2 = .ok (.iconst 1, 1) := by decide +kernel
theorem dX8_isSnapshot_3 : decode cX8_isSnapshot 3 = .ok (.invokestatic 48, 3) := by decide +kernel
theorem dX8_isSnapshot_6 : decode cX8_isSnapshot 6 = .ok (.ireturn, 1) := by decide +kernel
theorem dX8_refusedSnapshot_0 : decode cX8_refusedSnapshot 0 = .ok (.iload_n 1, 1) := by decide +kernel
theorem dX8_refusedSnapshot_1 : decode cX8_refusedSnapshot 1 = .ok (.invokestatic 135, 3) := by decide +kernel
theorem dX8_refusedSnapshot_4 : decode cX8_refusedSnapshot 4 = .ok (.ifCond .ne 7, 3) := by decide +kernel
theorem dX8_refusedSnapshot_7 : decode cX8_refusedSnapshot 7 = .ok (.iconst 1, 1) := by decide +kernel
theorem dX8_refusedSnapshot_8 : decode cX8_refusedSnapshot 8 = .ok (.goto 18, 3) := by decide +kernel
theorem dX8_refusedSnapshot_11 : decode cX8_refusedSnapshot 11 = .ok (.aload_n 0, 1) := by decide +kernel
theorem dX8_refusedSnapshot_12 : decode cX8_refusedSnapshot 12 = .ok (.getfield 19, 3) := by decide +kernel
theorem dX8_refusedSnapshot_15 : decode cX8_refusedSnapshot 15 = .ok (.iload_n 1, 1) := by decide +kernel
theorem dX8_refusedSnapshot_16 : decode cX8_refusedSnapshot 16 = .ok (.iaload, 1) := by decide +kernel
theorem dX8_refusedSnapshot_17 : decode cX8_refusedSnapshot 17 = .ok (.iconst 1, 1) := by decide +kernel
theorem dX8_refusedSnapshot_18 : decode cX8_refusedSnapshot 18 = .ok (.if_icmp .ne 7, 3) := by decide +kernel
theorem dX8_refusedSnapshot_21 : decode cX8_refusedSnapshot 21 = .ok (.iconst 0, 1) := by decide +kernel
theorem dX8_refusedSnapshot_22 : decode cX8_refusedSnapshot 22 = .ok (.goto 4, 3) := by decide +kernel
theorem dX8_refusedSnapshot_25 : decode cX8_refusedSnapshot 25 = .ok (.iconst 2, 1) := by decide +kernel
theorem dX8_refusedSnapshot_26 : decode cX8_refusedSnapshot 26 = .ok (.ireturn, 1) := by decide +kernel
theorem dX8_multiply_0 : decode cX8_multiply 0 = .ok (.aload_n 0, 1) := by decide +kernel
theorem dX8_multiply_1 : decode cX8_multiply 1 = .ok (.aload_n 0, 1) := by decide +kernel
theorem dX8_multiply_2 : decode cX8_multiply 2 = .ok (.iload_n 1, 1) := by decide +kernel
theorem dX8_multiply_3 : decode cX8_multiply 3 = .ok (.invokevirtual 138, 3) := by decide +kernel
theorem dX8_multiply_6 : decode cX8_multiply 6 = .ok (.putfield 41, 3) := by decide +kernel
theorem dX8_multiply_9 : decode cX8_multiply 9 = .ok (.aload_n 0, 1) := by decide +kernel
theorem dX8_multiply_10 : decode cX8_multiply 10 = .ok (.getfield 41, 3) := by decide +kernel
theorem dX8_multiply_13 : decode cX8_multiply 13 = .ok (.ifCond .ne 20, 3) := by decide +kernel
theorem dX8_multiply_16 : decode cX8_multiply 16 = .ok (.aload_n 0, 1) := by decide +kernel
theorem dX8_multiply_17 : decode cX8_multiply 17 = .ok (.aload_n 0, 1) := by decide +kernel
theorem dX8_multiply_18 : decode cX8_multiply 18 = .ok (.iload_n 1, 1) := by decide +kernel
theorem dX8_multiply_19 : decode cX8_multiply 19 = .ok (.invokevirtual 141, 3) := by decide +kernel
theorem dX8_multiply_22 : decode cX8_multiply 22 = .ok (.ifCond .ne 7, 3) := by decide +kernel
theorem dX8_multiply_25 : decode cX8_multiply 25 = .ok (.iconst 0, 1) := by decide +kernel
theorem dX8_multiply_26 : decode cX8_multiply 26 = .ok (.goto 4, 3) := by decide +kernel
theorem dX8_multiply_29 : decode cX8_multiply 29 = .ok (.iconst 2, 1) := by decide +kernel
theorem dX8_multiply_30 : decode cX8_multiply 30 = .ok (.putfield 41, 3) := by decide +kernel
theorem dX8_multiply_33 : decode cX8_multiply 33 = .ok (.aload_n 0, 1) := by decide +kernel
theorem dX8_multiply_34 : decode cX8_multiply 34 = .ok (.getfield 41, 3) := by decide +kernel
theorem dX8_multiply_37 : decode cX8_multiply 37 = .ok (.ifCond .le 5, 3) := by decide +kernel
theorem dX8_multiply_40 : decode cX8_multiply 40 = .ok (.iconst 0, 1) := by decide +kernel
theorem dX8_multiply_41 : decode cX8_multiply 41 = .ok (.ireturn, 1) := by decide +kernel
theorem dX8_multiply_42 : decode cX8_multiply 42 = .ok (.aload_n 0, 1) := by decide +kernel
theorem dX8_multiply_43 : decode cX8_multiply 43 = .ok (.invokevirtual 110, 3) := by decide +kernel
theorem dX8_multiply_46 : decode cX8_multiply 46 = .ok (.iconst 0, 1) := by decide +kernel
theorem dX8_multiply_47 : decode cX8_multiply 47 = .ok (.istore_n 2, 1) := by decide +kernel
theorem dX8_multiply_48 : decode cX8_multiply 48 = .ok (.iload_n 2, 1) := by decide +kernel
theorem dX8_multiply_49 : decode cX8_multiply 49 = .ok (.bipush 54, 2) := by decide +kernel
theorem dX8_multiply_51 : decode cX8_multiply 51 = .ok (.if_icmp .ge 21, 3) := by decide +kernel
theorem dX8_multiply_54 : decode cX8_multiply 54 = .ok (.aload_n 0, 1) := by decide +kernel
theorem dX8_multiply_55 : decode cX8_multiply 55 = .ok (.getfield 7, 3) := by decide +kernel
theorem dX8_multiply_58 : decode cX8_multiply 58 = .ok (.iload_n 2, 1) := by decide +kernel
theorem dX8_multiply_59 : decode cX8_multiply 59 = .ok (.aload_n 0, 1) := by decide +kernel
theorem dX8_multiply_60 : decode cX8_multiply 60 = .ok (.getfield 28, 3) := by decide +kernel
theorem dX8_multiply_63 : decode cX8_multiply 63 = .ok (.iload_n 2, 1) := by decide +kernel
theorem dX8_multiply_64 : decode cX8_multiply 64 = .ok (.iaload, 1) := by decide +kernel
theorem dX8_multiply_65 : decode cX8_multiply 65 = .ok (.iastore, 1) := by decide +kernel
theorem dX8_multiply_66 : decode cX8_multiply 66 = .ok (.iinc 2 1, 3) := by decide +kernel
theorem dX8_multiply_69 : decode cX8_multiply 69 = .ok (.goto (-21), 3) := by decide +kernel
theorem dX8_multiply_72 : decode cX8_multiply 72 = .ok (.aload_n 0, 1) := by decide +kernel
theorem dX8_multiply_73 : decode cX8_multiply 73 = .ok (.getfield 7, 3) := by decide +kernel
theorem dX8_multiply_76 : decode cX8_multiply 76 = .ok (.bipush 54, 2) := by decide +kernel
theorem dX8_multiply_78 : decode cX8_multiply 78 = .ok (.dup2, 1) := by decide +kernel
theorem dX8_multiply_79 : decode cX8_multiply 79 = .ok (.iaload, 1) := by decide +kernel
theorem dX8_multiply_80 : decode cX8_multiply 80 = .ok (.iconst 1, 1) := by decide +kernel
theorem dX8_multiply_81 : decode cX8_multiply 81 = .ok (.iadd, 1) := by decide +kernel
theorem dX8_multiply_82 : decode cX8_multiply 82 = .ok (.iastore, 1) := by decide +kernel
theorem dX8_multiply_83 : decode cX8_multiply 83 = .ok (.aload_n 0, 1) := by decide +kernel
theorem dX8_multiply_84 : decode cX8_multiply 84 = .ok (.getfield 7, 3) := by decide +kernel
theorem dX8_multiply_87 : decode cX8_multiply 87 = .ok (.iconst 0, 1) := by decide +kernel
theorem dX8_multiply_88 : decode cX8_multiply 88 = .ok (.iaload, 1) := by decide +kernel
theorem dX8_multiply_89 : decode cX8_multiply 89 = .ok (.ireturn, 1) := by decide +kernel
theorem dX8_label_0 : decode cX8_label 0 = .ok (.aload_n 0, 1) := by decide +kernel
theorem dX8_label_1 : decode cX8_label 1 = .ok (.aload_n 0, 1) := by decide +kernel
theorem dX8_label_2 : decode cX8_label 2 = .ok (.iload_n 1, 1) := by decide +kernel
theorem dX8_label_3 : decode cX8_label 3 = .ok (.invokevirtual 113, 3) := by decide +kernel
theorem dX8_label_6 : decode cX8_label 6 = .ok (.ifCond .eq 11, 3) := by decide +kernel
theorem dX8_label_9 : decode cX8_label 9 = .ok (.aload_n 0, 1) := by decide +kernel
theorem dX8_label_10 : decode cX8_label 10 = .ok (.iload_n 2, 1) := by decide +kernel
theorem dX8_label_11 : decode cX8_label 11 = .ok (.invokevirtual 144, 3) := by decide +kernel
theorem dX8_label_14 : decode cX8_label 14 = .ok (.ifCond .ne 7, 3) := by decide +kernel
theorem dX8_label_17 : decode cX8_label 17 = .ok (.iconst 1, 1) := by decide +kernel
theorem dX8_label_18 : decode cX8_label 18 = .ok (.goto 15, 3) := by decide +kernel
theorem dX8_label_21 : decode cX8_label 21 = .ok (.iload_n 3, 1) := by decide +kernel
theorem dX8_label_22 : decode cX8_label 22 = .ok (.invokestatic 132, 3) := by decide +kernel
theorem dX8_label_25 : decode cX8_label 25 = .ok (.ifCond .eq 7, 3) := by decide +kernel
theorem dX8_label_28 : decode cX8_label 28 = .ok (.iconst 0, 1) := by decide +kernel
theorem dX8_label_29 : decode cX8_label 29 = .ok (.goto 4, 3) := by decide +kernel
theorem dX8_label_32 : decode cX8_label 32 = .ok (.iconst 2, 1) := by decide +kernel
theorem dX8_label_33 : decode cX8_label 33 = .ok (.putfield 41, 3) := by decide +kernel
theorem dX8_label_36 : decode cX8_label 36 = .ok (.aload_n 0, 1) := by decide +kernel
theorem dX8_label_37 : decode cX8_label 37 = .ok (.getfield 41, 3) := by decide +kernel
theorem dX8_label_40 : decode cX8_label 40 = .ok (.ifCond .le 5, 3) := by decide +kernel
theorem dX8_label_43 : decode cX8_label 43 = .ok (.iconst 0, 1) := by decide +kernel
theorem dX8_label_44 : decode cX8_label 44 = .ok (.ireturn, 1) := by decide +kernel
theorem dX8_label_45 : decode cX8_label 45 = .ok (.aload_n 0, 1) := by decide +kernel
theorem dX8_label_46 : decode cX8_label 46 = .ok (.invokevirtual 110, 3) := by decide +kernel
theorem dX8_label_49 : decode cX8_label 49 = .ok (.aload_n 0, 1) := by decide +kernel
theorem dX8_label_50 : decode cX8_label 50 = .ok (.getfield 7, 3) := by decide +kernel
theorem dX8_label_53 : decode cX8_label 53 = .ok (.iload_n 1, 1) := by decide +kernel
theorem dX8_label_54 : decode cX8_label 54 = .ok (.invokestatic 56, 3) := by decide +kernel
theorem dX8_label_57 : decode cX8_label 57 = .ok (.iload_n 2, 1) := by decide +kernel
theorem dX8_label_58 : decode cX8_label 58 = .ok (.iadd, 1) := by decide +kernel
theorem dX8_label_59 : decode cX8_label 59 = .ok (.iaload, 1) := by decide +kernel
theorem dX8_label_60 : decode cX8_label 60 = .ok (.istore 4, 2) := by decide +kernel
theorem dX8_label_62 : decode cX8_label 62 = .ok (.aload_n 0, 1) := by decide +kernel
theorem dX8_label_63 : decode cX8_label 63 = .ok (.getfield 7, 3) := by decide +kernel
theorem dX8_label_66 : decode cX8_label 66 = .ok (.iload_n 1, 1) := by decide +kernel
theorem dX8_label_67 : decode cX8_label 67 = .ok (.invokestatic 56, 3) := by decide +kernel
theorem dX8_label_70 : decode cX8_label 70 = .ok (.iload_n 2, 1) := by decide +kernel
theorem dX8_label_71 : decode cX8_label 71 = .ok (.iadd, 1) := by decide +kernel
theorem dX8_label_72 : decode cX8_label 72 = .ok (.iload_n 3, 1) := by decide +kernel
theorem dX8_label_73 : decode cX8_label 73 = .ok (.iastore, 1) := by decide +kernel
theorem dX8_label_74 : decode cX8_label 74 = .ok (.iload 4, 2) := by decide +kernel
theorem dX8_label_76 : decode cX8_label 76 = .ok (.ireturn, 1) := by decide +kernel
theorem dX8_hold_0 : decode cX8_hold 0 = .ok (.aload_n 0, 1) := by decide +kernel
theorem dX8_hold_1 : decode cX8_hold 1 = .ok (.aload_n 0, 1) := by decide +kernel
theorem dX8_hold_2 : decode cX8_hold 2 = .ok (.iload_n 1, 1) := by decide +kernel
theorem dX8_hold_3 : decode cX8_hold 3 = .ok (.invokevirtual 144, 3) := by decide +kernel
theorem dX8_hold_6 : decode cX8_hold 6 = .ok (.ifCond .ne 7, 3) := by decide +kernel
theorem dX8_hold_9 : decode cX8_hold 9 = .ok (.iconst 1, 1) := by decide +kernel
theorem dX8_hold_10 : decode cX8_hold 10 = .ok (.goto 15, 3) := by decide +kernel
theorem dX8_hold_13 : decode cX8_hold 13 = .ok (.iload_n 2, 1) := by decide +kernel
theorem dX8_hold_14 : decode cX8_hold 14 = .ok (.invokestatic 132, 3) := by decide +kernel
theorem dX8_hold_17 : decode cX8_hold 17 = .ok (.ifCond .eq 7, 3) := by decide +kernel
theorem dX8_hold_20 : decode cX8_hold 20 = .ok (.iconst 0, 1) := by decide +kernel
theorem dX8_hold_21 : decode cX8_hold 21 = .ok (.goto 4, 3) := by decide +kernel
theorem dX8_hold_24 : decode cX8_hold 24 = .ok (.iconst 2, 1) := by decide +kernel
theorem dX8_hold_25 : decode cX8_hold 25 = .ok (.putfield 41, 3) := by decide +kernel
theorem dX8_hold_28 : decode cX8_hold 28 = .ok (.aload_n 0, 1) := by decide +kernel
theorem dX8_hold_29 : decode cX8_hold 29 = .ok (.getfield 41, 3) := by decide +kernel
theorem dX8_hold_32 : decode cX8_hold 32 = .ok (.ifCond .le 5, 3) := by decide +kernel
theorem dX8_hold_35 : decode cX8_hold 35 = .ok (.iconst 0, 1) := by decide +kernel
theorem dX8_hold_36 : decode cX8_hold 36 = .ok (.ireturn, 1) := by decide +kernel
theorem dX8_hold_37 : decode cX8_hold 37 = .ok (.aload_n 0, 1) := by decide +kernel
theorem dX8_hold_38 : decode cX8_hold 38 = .ok (.invokevirtual 110, 3) := by decide +kernel
theorem dX8_hold_41 : decode cX8_hold 41 = .ok (.aload_n 0, 1) := by decide +kernel
theorem dX8_hold_42 : decode cX8_hold 42 = .ok (.getfield 7, 3) := by decide +kernel
theorem dX8_hold_45 : decode cX8_hold 45 = .ok (.bipush 50, 2) := by decide +kernel
theorem dX8_hold_47 : decode cX8_hold 47 = .ok (.iload_n 1, 1) := by decide +kernel
theorem dX8_hold_48 : decode cX8_hold 48 = .ok (.iadd, 1) := by decide +kernel
theorem dX8_hold_49 : decode cX8_hold 49 = .ok (.iaload, 1) := by decide +kernel
theorem dX8_hold_50 : decode cX8_hold 50 = .ok (.istore_n 3, 1) := by decide +kernel
theorem dX8_hold_51 : decode cX8_hold 51 = .ok (.aload_n 0, 1) := by decide +kernel
theorem dX8_hold_52 : decode cX8_hold 52 = .ok (.getfield 7, 3) := by decide +kernel
theorem dX8_hold_55 : decode cX8_hold 55 = .ok (.bipush 50, 2) := by decide +kernel
theorem dX8_hold_57 : decode cX8_hold 57 = .ok (.iload_n 1, 1) := by decide +kernel
theorem dX8_hold_58 : decode cX8_hold 58 = .ok (.iadd, 1) := by decide +kernel
theorem dX8_hold_59 : decode cX8_hold 59 = .ok (.iload_n 2, 1) := by decide +kernel
theorem dX8_hold_60 : decode cX8_hold 60 = .ok (.iastore, 1) := by decide +kernel
theorem dX8_hold_61 : decode cX8_hold 61 = .ok (.iload_n 3, 1) := by decide +kernel
theorem dX8_hold_62 : decode cX8_hold 62 = .ok (.ireturn, 1) := by decide +kernel
theorem dX8_labelByColors_0 : decode cX8_labelByColors 0 = .ok (.aload_n 0, 1) := by decide +kernel
theorem dX8_labelByColors_1 : decode cX8_labelByColors 1 = .ok (.invokevirtual 147, 3) := by decide +kernel
theorem dX8_labelByColors_4 : decode cX8_labelByColors 4 = .ok (.istore_n 1, 1) := by decide +kernel
theorem dX8_labelByColors_5 : decode cX8_labelByColors 5 = .ok (.aload_n 0, 1) := by decide +kernel
theorem dX8_labelByColors_6 : decode cX8_labelByColors 6 = .ok (.iload_n 1, 1) := by decide +kernel
theorem dX8_labelByColors_7 : decode cX8_labelByColors 7 = .ok (.aload_n 0, 1) := by decide +kernel
theorem dX8_labelByColors_8 : decode cX8_labelByColors 8 = .ok (.getfield 7, 3) := by decide +kernel
theorem dX8_labelByColors_11 : decode cX8_labelByColors 11 = .ok (.iconst 1, 1) := by decide +kernel
theorem dX8_labelByColors_12 : decode cX8_labelByColors 12 = .ok (.iaload, 1) := by decide +kernel
theorem dX8_labelByColors_13 : decode cX8_labelByColors 13 = .ok (.if_icmp .le 7, 3) := by decide +kernel
theorem dX8_labelByColors_16 : decode cX8_labelByColors 16 = .ok (.iconst 1, 1) := by decide +kernel
theorem dX8_labelByColors_17 : decode cX8_labelByColors 17 = .ok (.goto 4, 3) := by decide +kernel
theorem dX8_labelByColors_20 : decode cX8_labelByColors 20 = .ok (.iconst 0, 1) := by decide +kernel
theorem dX8_labelByColors_21 : decode cX8_labelByColors 21 = .ok (.putfield 41, 3) := by decide +kernel
theorem dX8_labelByColors_24 : decode cX8_labelByColors 24 = .ok (.aload_n 0, 1) := by decide +kernel
theorem dX8_labelByColors_25 : decode cX8_labelByColors 25 = .ok (.getfield 41, 3) := by decide +kernel
theorem dX8_labelByColors_28 : decode cX8_labelByColors 28 = .ok (.ifCond .le 5, 3) := by decide +kernel
theorem dX8_labelByColors_31 : decode cX8_labelByColors 31 = .ok (.iconst 0, 1) := by decide +kernel
theorem dX8_labelByColors_32 : decode cX8_labelByColors 32 = .ok (.ireturn, 1) := by decide +kernel
theorem dX8_labelByColors_33 : decode cX8_labelByColors 33 = .ok (.aload_n 0, 1) := by decide +kernel
theorem dX8_labelByColors_34 : decode cX8_labelByColors 34 = .ok (.invokevirtual 110, 3) := by decide +kernel
theorem dX8_labelByColors_37 : decode cX8_labelByColors 37 = .ok (.iconst 0, 1) := by decide +kernel
theorem dX8_labelByColors_38 : decode cX8_labelByColors 38 = .ok (.istore_n 2, 1) := by decide +kernel
theorem dX8_labelByColors_39 : decode cX8_labelByColors 39 = .ok (.iload_n 2, 1) := by decide +kernel
theorem dX8_labelByColors_40 : decode cX8_labelByColors 40 = .ok (.aload_n 0, 1) := by decide +kernel
theorem dX8_labelByColors_41 : decode cX8_labelByColors 41 = .ok (.getfield 7, 3) := by decide +kernel
theorem dX8_labelByColors_44 : decode cX8_labelByColors 44 = .ok (.iconst 0, 1) := by decide +kernel
theorem dX8_labelByColors_45 : decode cX8_labelByColors 45 = .ok (.iaload, 1) := by decide +kernel
theorem dX8_labelByColors_46 : decode cX8_labelByColors 46 = .ok (.if_icmp .ge 48, 3) := by decide +kernel
theorem dX8_labelByColors_49 : decode cX8_labelByColors 49 = .ok (.iconst 0, 1) := by decide +kernel
theorem dX8_labelByColors_50 : decode cX8_labelByColors 50 = .ok (.istore_n 3, 1) := by decide +kernel
theorem dX8_labelByColors_51 : decode cX8_labelByColors 51 = .ok (.iload_n 3, 1) := by decide +kernel
theorem dX8_labelByColors_52 : decode cX8_labelByColors 52 = .ok (.iconst 4, 1) := by decide +kernel
theorem dX8_labelByColors_53 : decode cX8_labelByColors 53 = .ok (.if_icmp .ge 35, 3) := by decide +kernel
theorem dX8_labelByColors_56 : decode cX8_labelByColors 56 = .ok (.aload_n 0, 1) := by decide +kernel
theorem dX8_labelByColors_57 : decode cX8_labelByColors 57 = .ok (.getfield 7, 3) := by decide +kernel
theorem dX8_labelByColors_60 : decode cX8_labelByColors 60 = .ok (.iload_n 2, 1) := by decide +kernel
theorem dX8_labelByColors_61 : decode cX8_labelByColors 61 = .ok (.invokestatic 56, 3) := by decide +kernel
theorem dX8_labelByColors_64 : decode cX8_labelByColors 64 = .ok (.iload_n 3, 1) := by decide +kernel
theorem dX8_labelByColors_65 : decode cX8_labelByColors 65 = .ok (.iadd, 1) := by decide +kernel
theorem dX8_labelByColors_66 : decode cX8_labelByColors 66 = .ok (.iload_n 3, 1) := by decide +kernel
theorem dX8_labelByColors_67 : decode cX8_labelByColors 67 = .ok (.aload_n 0, 1) := by decide +kernel
theorem dX8_labelByColors_68 : decode cX8_labelByColors 68 = .ok (.getfield 25, 3) := by decide +kernel
theorem dX8_labelByColors_71 : decode cX8_labelByColors 71 = .ok (.iload_n 2, 1) := by decide +kernel
theorem dX8_labelByColors_72 : decode cX8_labelByColors 72 = .ok (.iaload, 1) := by decide +kernel
theorem dX8_labelByColors_73 : decode cX8_labelByColors 73 = .ok (.if_icmp .ne 7, 3) := by decide +kernel
theorem dX8_labelByColors_76 : decode cX8_labelByColors 76 = .ok (.iconst 1, 1) := by decide +kernel
theorem dX8_labelByColors_77 : decode cX8_labelByColors 77 = .ok (.goto 4, 3) := by decide +kernel
theorem dX8_labelByColors_80 : decode cX8_labelByColors 80 = .ok (.iconst 0, 1) := by decide +kernel
theorem dX8_labelByColors_81 : decode cX8_labelByColors 81 = .ok (.iastore, 1) := by decide +kernel
theorem dX8_labelByColors_82 : decode cX8_labelByColors 82 = .ok (.iinc 3 1, 3) := by decide +kernel
theorem dX8_labelByColors_85 : decode cX8_labelByColors 85 = .ok (.goto (-34), 3) := by decide +kernel
theorem dX8_labelByColors_88 : decode cX8_labelByColors 88 = .ok (.iinc 2 1, 3) := by decide +kernel
theorem dX8_labelByColors_91 : decode cX8_labelByColors 91 = .ok (.goto (-52), 3) := by decide +kernel
theorem dX8_labelByColors_94 : decode cX8_labelByColors 94 = .ok (.iconst 0, 1) := by decide +kernel
theorem dX8_labelByColors_95 : decode cX8_labelByColors 95 = .ok (.istore_n 2, 1) := by decide +kernel
theorem dX8_labelByColors_96 : decode cX8_labelByColors 96 = .ok (.iload_n 2, 1) := by decide +kernel
theorem dX8_labelByColors_97 : decode cX8_labelByColors 97 = .ok (.iconst 4, 1) := by decide +kernel
theorem dX8_labelByColors_98 : decode cX8_labelByColors 98 = .ok (.if_icmp .ge 28, 3) := by decide +kernel
theorem dX8_labelByColors_101 : decode cX8_labelByColors 101 = .ok (.aload_n 0, 1) := by decide +kernel
theorem dX8_labelByColors_102 : decode cX8_labelByColors 102 = .ok (.getfield 7, 3) := by decide +kernel
theorem dX8_labelByColors_105 : decode cX8_labelByColors 105 = .ok (.bipush 50, 2) := by decide +kernel
theorem dX8_labelByColors_107 : decode cX8_labelByColors 107 = .ok (.iload_n 2, 1) := by decide +kernel
theorem dX8_labelByColors_108 : decode cX8_labelByColors 108 = .ok (.iadd, 1) := by decide +kernel
theorem dX8_labelByColors_109 : decode cX8_labelByColors 109 = .ok (.iload_n 2, 1) := by decide +kernel
theorem dX8_labelByColors_110 : decode cX8_labelByColors 110 = .ok (.iload_n 1, 1) := by decide +kernel
theorem dX8_labelByColors_111 : decode cX8_labelByColors 111 = .ok (.if_icmp .ge 7, 3) := by decide +kernel
theorem dX8_labelByColors_114 : decode cX8_labelByColors 114 = .ok (.iconst 1, 1) := by decide +kernel
theorem dX8_labelByColors_115 : decode cX8_labelByColors 115 = .ok (.goto 4, 3) := by decide +kernel
theorem dX8_labelByColors_118 : decode cX8_labelByColors 118 = .ok (.iconst 0, 1) := by decide +kernel
theorem dX8_labelByColors_119 : decode cX8_labelByColors 119 = .ok (.iastore, 1) := by decide +kernel
theorem dX8_labelByColors_120 : decode cX8_labelByColors 120 = .ok (.iinc 2 1, 3) := by decide +kernel
theorem dX8_labelByColors_123 : decode cX8_labelByColors 123 = .ok (.goto (-27), 3) := by decide +kernel
theorem dX8_labelByColors_126 : decode cX8_labelByColors 126 = .ok (.iload_n 1, 1) := by decide +kernel
theorem dX8_labelByColors_127 : decode cX8_labelByColors 127 = .ok (.ireturn, 1) := by decide +kernel
theorem dX8_setHandle_0 : decode cX8_setHandle 0 = .ok (.iload_n 1, 1) := by decide +kernel
theorem dX8_setHandle_1 : decode cX8_setHandle 1 = .ok (.istore_n 3, 1) := by decide +kernel
theorem dX8_setHandle_2 : decode cX8_setHandle 2 = .ok (.aload_n 0, 1) := by decide +kernel
theorem dX8_setHandle_3 : decode cX8_setHandle 3 = .ok (.getfield 7, 3) := by decide +kernel
theorem dX8_setHandle_6 : decode cX8_setHandle 6 = .ok (.iconst 1, 1) := by decide +kernel
theorem dX8_setHandle_7 : decode cX8_setHandle 7 = .ok (.iaload, 1) := by decide +kernel
theorem dX8_setHandle_8 : decode cX8_setHandle 8 = .ok (.iconst 1, 1) := by decide +kernel
theorem dX8_setHandle_9 : decode cX8_setHandle 9 = .ok (.isub, 1) := by decide +kernel
theorem dX8_setHandle_10 : decode cX8_setHandle 10 = .ok (.istore 4, 2) := by decide +kernel
theorem dX8_setHandle_12 : decode cX8_setHandle 12 = .ok (.iload 4, 2) := by decide +kernel
theorem dX8_setHandle_14 : decode cX8_setHandle 14 = .ok (.ifCond .lt 36, 3) := by decide +kernel
theorem dX8_setHandle_17 : decode cX8_setHandle 17 = .ok (.aload_n 0, 1) := by decide +kernel
theorem dX8_setHandle_18 : decode cX8_setHandle 18 = .ok (.getfield 7, 3) := by decide +kernel
theorem dX8_setHandle_21 : decode cX8_setHandle 21 = .ok (.bipush 50, 2) := by decide +kernel
theorem dX8_setHandle_23 : decode cX8_setHandle 23 = .ok (.iload 4, 2) := by decide +kernel
theorem dX8_setHandle_25 : decode cX8_setHandle 25 = .ok (.iadd, 1) := by decide +kernel
theorem dX8_setHandle_26 : decode cX8_setHandle 26 = .ok (.iload_n 3, 1) := by decide +kernel
theorem dX8_setHandle_27 : decode cX8_setHandle 27 = .ok (.iconst 2, 1) := by decide +kernel
theorem dX8_setHandle_28 : decode cX8_setHandle 28 = .ok (.iload_n 2, 1) := by decide +kernel
theorem dX8_setHandle_29 : decode cX8_setHandle 29 = .ok (.imul, 1) := by decide +kernel
theorem dX8_setHandle_30 : decode cX8_setHandle 30 = .ok (.iconst 1, 1) := by decide +kernel
theorem dX8_setHandle_31 : decode cX8_setHandle 31 = .ok (.iadd, 1) := by decide +kernel
theorem dX8_setHandle_32 : decode cX8_setHandle 32 = .ok (.irem, 1) := by decide +kernel
theorem dX8_setHandle_33 : decode cX8_setHandle 33 = .ok (.iload_n 2, 1) := by decide +kernel
theorem dX8_setHandle_34 : decode cX8_setHandle 34 = .ok (.isub, 1) := by decide +kernel
theorem dX8_setHandle_35 : decode cX8_setHandle 35 = .ok (.iastore, 1) := by decide +kernel
theorem dX8_setHandle_36 : decode cX8_setHandle 36 = .ok (.iload_n 3, 1) := by decide +kernel
theorem dX8_setHandle_37 : decode cX8_setHandle 37 = .ok (.iconst 2, 1) := by decide +kernel
theorem dX8_setHandle_38 : decode cX8_setHandle 38 = .ok (.iload_n 2, 1) := by decide +kernel
theorem dX8_setHandle_39 : decode cX8_setHandle 39 = .ok (.imul, 1) := by decide +kernel
theorem dX8_setHandle_40 : decode cX8_setHandle 40 = .ok (.iconst 1, 1) := by decide +kernel
theorem dX8_setHandle_41 : decode cX8_setHandle 41 = .ok (.iadd, 1) := by decide +kernel
theorem dX8_setHandle_42 : decode cX8_setHandle 42 = .ok (.idiv, 1) := by decide +kernel
theorem dX8_setHandle_43 : decode cX8_setHandle 43 = .ok (.istore_n 3, 1) := by decide +kernel
theorem dX8_setHandle_44 : decode cX8_setHandle 44 = .ok (.iinc 4 (-1), 3) := by decide +kernel
theorem dX8_setHandle_47 : decode cX8_setHandle 47 = .ok (.goto (-35), 3) := by decide +kernel
theorem dX8_setHandle_50 : decode cX8_setHandle 50 = .ok (.return_, 1) := by decide +kernel
theorem dX8_layBest_0 : decode cX8_layBest 0 = .ok (.aload_n 0, 1) := by decide +kernel
theorem dX8_layBest_1 : decode cX8_layBest 1 = .ok (.lconst 0, 1) := by decide +kernel
theorem dX8_layBest_2 : decode cX8_layBest 2 = .ok (.putfield 150, 3) := by decide +kernel
theorem dX8_layBest_5 : decode cX8_layBest 5 = .ok (.iconst 1, 1) := by decide +kernel
theorem dX8_layBest_6 : decode cX8_layBest 6 = .ok (.istore_n 2, 1) := by decide +kernel
theorem dX8_layBest_7 : decode cX8_layBest 7 = .ok (.iconst 0, 1) := by decide +kernel
theorem dX8_layBest_8 : decode cX8_layBest 8 = .ok (.istore_n 3, 1) := by decide +kernel
theorem dX8_layBest_9 : decode cX8_layBest 9 = .ok (.iload_n 3, 1) := by decide +kernel
theorem dX8_layBest_10 : decode cX8_layBest 10 = .ok (.iconst 4, 1) := by decide +kernel
theorem dX8_layBest_11 : decode cX8_layBest 11 = .ok (.if_icmp .ge 53, 3) := by decide +kernel
theorem dX8_layBest_14 : decode cX8_layBest 14 = .ok (.iload_n 2, 1) := by decide +kernel
theorem dX8_layBest_15 : decode cX8_layBest 15 = .ok (.iload_n 3, 1) := by decide +kernel
theorem dX8_layBest_16 : decode cX8_layBest 16 = .ok (.aload_n 0, 1) := by decide +kernel
theorem dX8_layBest_17 : decode cX8_layBest 17 = .ok (.getfield 7, 3) := by decide +kernel
theorem dX8_layBest_20 : decode cX8_layBest 20 = .ok (.iconst 1, 1) := by decide +kernel
theorem dX8_layBest_21 : decode cX8_layBest 21 = .ok (.iaload, 1) := by decide +kernel
theorem dX8_layBest_22 : decode cX8_layBest 22 = .ok (.if_icmp .ge 11, 3) := by decide +kernel
theorem dX8_layBest_25 : decode cX8_layBest 25 = .ok (.iconst 2, 1) := by decide +kernel
theorem dX8_layBest_26 : decode cX8_layBest 26 = .ok (.iload_n 1, 1) := by decide +kernel
theorem dX8_layBest_27 : decode cX8_layBest 27 = .ok (.imul, 1) := by decide +kernel
theorem dX8_layBest_28 : decode cX8_layBest 28 = .ok (.iconst 1, 1) := by decide +kernel
theorem dX8_layBest_29 : decode cX8_layBest 29 = .ok (.iadd, 1) := by decide +kernel
theorem dX8_layBest_30 : decode cX8_layBest 30 = .ok (.goto 4, 3) := by decide +kernel
theorem dX8_layBest_33 : decode cX8_layBest 33 = .ok (.iconst 1, 1) := by decide +kernel
theorem dX8_layBest_34 : decode cX8_layBest 34 = .ok (.imul, 1) := by decide +kernel
theorem dX8_layBest_35 : decode cX8_layBest 35 = .ok (.istore_n 2, 1) := by decide +kernel
theorem dX8_layBest_36 : decode cX8_layBest 36 = .ok (.aload_n 0, 1) := by decide +kernel
theorem dX8_layBest_37 : decode cX8_layBest 37 = .ok (.getfield 34, 3) := by decide +kernel
theorem dX8_layBest_40 : decode cX8_layBest 40 = .ok (.iload_n 3, 1) := by decide +kernel
theorem dX8_layBest_41 : decode cX8_layBest 41 = .ok (.aload_n 0, 1) := by decide +kernel
theorem dX8_layBest_42 : decode cX8_layBest 42 = .ok (.getfield 7, 3) := by decide +kernel
theorem dX8_layBest_45 : decode cX8_layBest 45 = .ok (.bipush 50, 2) := by decide +kernel
theorem dX8_layBest_47 : decode cX8_layBest 47 = .ok (.iload_n 3, 1) := by decide +kernel
theorem dX8_layBest_48 : decode cX8_layBest 48 = .ok (.iadd, 1) := by decide +kernel
theorem dX8_layBest_49 : decode cX8_layBest 49 = .ok (.iaload, 1) := by decide +kernel
theorem dX8_layBest_50 : decode cX8_layBest 50 = .ok (.iastore, 1) := by decide +kernel
theorem dX8_layBest_51 : decode cX8_layBest 51 = .ok (.aload_n 0, 1) := by decide +kernel
theorem dX8_layBest_52 : decode cX8_layBest 52 = .ok (.getfield 31, 3) := by decide +kernel
theorem dX8_layBest_55 : decode cX8_layBest 55 = .ok (.iload_n 3, 1) := by decide +kernel
theorem dX8_layBest_56 : decode cX8_layBest 56 = .ok (.iconst 0, 1) := by decide +kernel
theorem dX8_layBest_57 : decode cX8_layBest 57 = .ok (.iastore, 1) := by decide +kernel
