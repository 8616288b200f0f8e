theorem dX8_layBest_58 : decode cX8_layBest 58 = .ok (.iinc 3 1, 3) := by decide +kernel
theorem dX8_layBest_61 : decode cX8_layBest 61 = .ok (.goto (-52), 3) := by decide +kernel
theorem dX8_layBest_64 : decode cX8_layBest 64 = .ok (.iconst 0, 1) := by decide +kernel
theorem dX8_layBest_65 : decode cX8_layBest 65 = .ok (.istore_n 3, 1) := by decide +kernel
theorem dX8_layBest_66 : decode cX8_layBest 66 = .ok (.iload_n 3, 1) := by decide +kernel
theorem dX8_layBest_67 : decode cX8_layBest 67 = .ok (.iload_n 2, 1) := by decide +kernel
theorem dX8_layBest_68 : decode cX8_layBest 68 = .ok (.if_icmp .ge 114, 3) := by decide +kernel
theorem dX8_layBest_71 : decode cX8_layBest 71 = .ok (.aload_n 0, 1) := by decide +kernel
theorem dX8_layBest_72 : decode cX8_layBest 72 = .ok (.invokevirtual 76, 3) := by decide +kernel
theorem dX8_layBest_75 : decode cX8_layBest 75 = .ok (.iconst (-1), 1) := by decide +kernel
theorem dX8_layBest_76 : decode cX8_layBest 76 = .ok (.if_icmp .ne 106, 3) := by decide +kernel
theorem dX8_layBest_79 : decode cX8_layBest 79 = .ok (.aload_n 0, 1) := by decide +kernel
theorem dX8_layBest_80 : decode cX8_layBest 80 = .ok (.iload_n 3, 1) := by decide +kernel
theorem dX8_layBest_81 : decode cX8_layBest 81 = .ok (.iload_n 1, 1) := by decide +kernel
theorem dX8_layBest_82 : decode cX8_layBest 82 = .ok (.invokevirtual 153, 3) := by decide +kernel
theorem dX8_layBest_85 : decode cX8_layBest 85 = .ok (.aload_n 0, 1) := by decide +kernel
theorem dX8_layBest_86 : decode cX8_layBest 86 = .ok (.invokevirtual 80, 3) := by decide +kernel
theorem dX8_layBest_89 : decode cX8_layBest 89 = .ok (.iconst (-1), 1) := by decide +kernel
theorem dX8_layBest_90 : decode cX8_layBest 90 = .ok (.if_icmp .ne 86, 3) := by decide +kernel
theorem dX8_layBest_93 : decode cX8_layBest 93 = .ok (.aload_n 0, 1) := by decide +kernel
theorem dX8_layBest_94 : decode cX8_layBest 94 = .ok (.invokevirtual 156, 3) := by decide +kernel
theorem dX8_layBest_97 : decode cX8_layBest 97 = .ok (.aload_n 0, 1) := by decide +kernel
theorem dX8_layBest_98 : decode cX8_layBest 98 = .ok (.getfield 150, 3) := by decide +kernel
theorem dX8_layBest_101 : decode cX8_layBest 101 = .ok (.lconst 0, 1) := by decide +kernel
theorem dX8_layBest_102 : decode cX8_layBest 102 = .ok (.lcmp, 1) := by decide +kernel
theorem dX8_layBest_103 : decode cX8_layBest 103 = .ok (.ifCond .eq 25, 3) := by decide +kernel
theorem dX8_layBest_106 : decode cX8_layBest 106 = .ok (.aload_n 0, 1) := by decide +kernel
theorem dX8_layBest_107 : decode cX8_layBest 107 = .ok (.getfield 83, 3) := by decide +kernel
theorem dX8_layBest_110 : decode cX8_layBest 110 = .ok (.aload_n 0, 1) := by decide +kernel
theorem dX8_layBest_111 : decode cX8_layBest 111 = .ok (.getfield 150, 3) := by decide +kernel
theorem dX8_layBest_114 : decode cX8_layBest 114 = .ok (.lmul, 1) := by decide +kernel
theorem dX8_layBest_115 : decode cX8_layBest 115 = .ok (.aload_n 0, 1) := by decide +kernel
theorem dX8_layBest_116 : decode cX8_layBest 116 = .ok (.getfield 159, 3) := by decide +kernel
theorem dX8_layBest_119 : decode cX8_layBest 119 = .ok (.aload_n 0, 1) := by decide +kernel
theorem dX8_layBest_120 : decode cX8_layBest 120 = .ok (.getfield 87, 3) := by decide +kernel
theorem dX8_layBest_123 : decode cX8_layBest 123 = .ok (.lmul, 1) := by decide +kernel
theorem dX8_layBest_124 : decode cX8_layBest 124 = .ok (.lcmp, 1) := by decide +kernel
theorem dX8_layBest_125 : decode cX8_layBest 125 = .ok (.ifCond .ge 51, 3) := by decide +kernel
theorem dX8_layBest_128 : decode cX8_layBest 128 = .ok (.aload_n 0, 1) := by decide +kernel
theorem dX8_layBest_129 : decode cX8_layBest 129 = .ok (.aload_n 0, 1) := by decide +kernel
theorem dX8_layBest_130 : decode cX8_layBest 130 = .ok (.getfield 83, 3) := by decide +kernel
theorem dX8_layBest_133 : decode cX8_layBest 133 = .ok (.putfield 159, 3) := by decide +kernel
theorem dX8_layBest_136 : decode cX8_layBest 136 = .ok (.aload_n 0, 1) := by decide +kernel
theorem dX8_layBest_137 : decode cX8_layBest 137 = .ok (.aload_n 0, 1) := by decide +kernel
theorem dX8_layBest_138 : decode cX8_layBest 138 = .ok (.getfield 87, 3) := by decide +kernel
theorem dX8_layBest_141 : decode cX8_layBest 141 = .ok (.putfield 150, 3) := by decide +kernel
theorem dX8_layBest_144 : decode cX8_layBest 144 = .ok (.iconst 0, 1) := by decide +kernel
theorem dX8_layBest_145 : decode cX8_layBest 145 = .ok (.istore 4, 2) := by decide +kernel
theorem dX8_layBest_147 : decode cX8_layBest 147 = .ok (.iload 4, 2) := by decide +kernel
theorem dX8_layBest_149 : decode cX8_layBest 149 = .ok (.iconst 4, 1) := by decide +kernel
theorem dX8_layBest_150 : decode cX8_layBest 150 = .ok (.if_icmp .ge 26, 3) := by decide +kernel
theorem dX8_layBest_153 : decode cX8_layBest 153 = .ok (.aload_n 0, 1) := by decide +kernel
theorem dX8_layBest_154 : decode cX8_layBest 154 = .ok (.getfield 31, 3) := by decide +kernel
theorem dX8_layBest_157 : decode cX8_layBest 157 = .ok (.iload 4, 2) := by decide +kernel
theorem dX8_layBest_159 : decode cX8_layBest 159 = .ok (.aload_n 0, 1) := by decide +kernel
theorem dX8_layBest_160 : decode cX8_layBest 160 = .ok (.getfield 7, 3) := by decide +kernel
theorem dX8_layBest_163 : decode cX8_layBest 163 = .ok (.bipush 50, 2) := by decide +kernel
theorem dX8_layBest_165 : decode cX8_layBest 165 = .ok (.iload 4, 2) := by decide +kernel
theorem dX8_layBest_167 : decode cX8_layBest 167 = .ok (.iadd, 1) := by decide +kernel
theorem dX8_layBest_168 : decode cX8_layBest 168 = .ok (.iaload, 1) := by decide +kernel
theorem dX8_layBest_169 : decode cX8_layBest 169 = .ok (.iastore, 1) := by decide +kernel
theorem dX8_layBest_170 : decode cX8_layBest 170 = .ok (.iinc 4 1, 3) := by decide +kernel
theorem dX8_layBest_173 : decode cX8_layBest 173 = .ok (.goto (-26), 3) := by decide +kernel
theorem dX8_layBest_176 : decode cX8_layBest 176 = .ok (.iinc 3 1, 3) := by decide +kernel
theorem dX8_layBest_179 : decode cX8_layBest 179 = .ok (.goto (-113), 3) := by decide +kernel
theorem dX8_layBest_182 : decode cX8_layBest 182 = .ok (.iconst 0, 1) := by decide +kernel
theorem dX8_layBest_183 : decode cX8_layBest 183 = .ok (.istore_n 3, 1) := by decide +kernel
theorem dX8_layBest_184 : decode cX8_layBest 184 = .ok (.iload_n 3, 1) := by decide +kernel
theorem dX8_layBest_185 : decode cX8_layBest 185 = .ok (.iconst 4, 1) := by decide +kernel
theorem dX8_layBest_186 : decode cX8_layBest 186 = .ok (.if_icmp .ge 24, 3) := by decide +kernel
theorem dX8_layBest_189 : decode cX8_layBest 189 = .ok (.aload_n 0, 1) := by decide +kernel
theorem dX8_layBest_190 : decode cX8_layBest 190 = .ok (.getfield 7, 3) := by decide +kernel
theorem dX8_layBest_193 : decode cX8_layBest 193 = .ok (.bipush 50, 2) := by decide +kernel
theorem dX8_layBest_195 : decode cX8_layBest 195 = .ok (.iload_n 3, 1) := by decide +kernel
theorem dX8_layBest_196 : decode cX8_layBest 196 = .ok (.iadd, 1) := by decide +kernel
theorem dX8_layBest_197 : decode cX8_layBest 197 = .ok (.aload_n 0, 1) := by decide +kernel
theorem dX8_layBest_198 : decode cX8_layBest 198 = .ok (.getfield 34, 3) := by decide +kernel
theorem dX8_layBest_201 : decode cX8_layBest 201 = .ok (.iload_n 3, 1) := by decide +kernel
theorem dX8_layBest_202 : decode cX8_layBest 202 = .ok (.iaload, 1) := by decide +kernel
theorem dX8_layBest_203 : decode cX8_layBest 203 = .ok (.iastore, 1) := by decide +kernel
theorem dX8_layBest_204 : decode cX8_layBest 204 = .ok (.iinc 3 1, 3) := by decide +kernel
theorem dX8_layBest_207 : decode cX8_layBest 207 = .ok (.goto (-23), 3) := by decide +kernel
theorem dX8_layBest_210 : decode cX8_layBest 210 = .ok (.aload_n 0, 1) := by decide +kernel
theorem dX8_layBest_211 : decode cX8_layBest 211 = .ok (.getfield 150, 3) := by decide +kernel
theorem dX8_layBest_214 : decode cX8_layBest 214 = .ok (.lconst 0, 1) := by decide +kernel
theorem dX8_layBest_215 : decode cX8_layBest 215 = .ok (.lcmp, 1) := by decide +kernel
theorem dX8_layBest_216 : decode cX8_layBest 216 = .ok (.ifCond .le 7, 3) := by decide +kernel
theorem dX8_layBest_219 : decode cX8_layBest 219 = .ok (.iconst 1, 1) := by decide +kernel
theorem dX8_layBest_220 : decode cX8_layBest 220 = .ok (.goto 4, 3) := by decide +kernel
theorem dX8_layBest_223 : decode cX8_layBest 223 = .ok (.iconst 0, 1) := by decide +kernel
theorem dX8_layBest_224 : decode cX8_layBest 224 = .ok (.ireturn, 1) := by decide +kernel
theorem dX8_isSize_0 : decode cX8_isSize 0 = .ok (.iload_n 0, 1) := by decide +kernel
theorem dX8_isSize_1 : decode cX8_isSize 1 = .ok (.iconst 1, 1) := by decide +kernel
theorem dX8_isSize_2 : decode cX8_isSize 2 = .ok (.iconst 2, 1) := by decide +kernel
theorem dX8_isSize_3 : decode cX8_isSize 3 = .ok (.invokestatic 48, 3) := by decide +kernel
theorem dX8_isSize_6 : decode cX8_isSize 6 = .ok (.ireturn, 1) := by decide +kernel
theorem dX8_takeHandle_0 : decode cX8_takeHandle 0 = .ok (.aload_n 0, 1) := by decide +kernel
theorem dX8_takeHandle_1 : decode cX8_takeHandle 1 = .ok (.iload_n 1, 1) := by decide +kernel
theorem dX8_takeHandle_2 : decode cX8_takeHandle 2 = .ok (.invokestatic 162, 3) := by decide +kernel
theorem dX8_takeHandle_5 : decode cX8_takeHandle 5 = .ok (.ifCond .eq 7, 3) := by decide +kernel
theorem dX8_takeHandle_8 : decode cX8_takeHandle 8 = .ok (.iconst 0, 1) := by decide +kernel
theorem dX8_takeHandle_9 : decode cX8_takeHandle 9 = .ok (.goto 4, 3) := by decide +kernel
theorem dX8_takeHandle_12 : decode cX8_takeHandle 12 = .ok (.iconst 1, 1) := by decide +kernel
theorem dX8_takeHandle_13 : decode cX8_takeHandle 13 = .ok (.putfield 41, 3) := by decide +kernel
theorem dX8_takeHandle_16 : decode cX8_takeHandle 16 = .ok (.aload_n 0, 1) := by decide +kernel
theorem dX8_takeHandle_17 : decode cX8_takeHandle 17 = .ok (.getfield 41, 3) := by decide +kernel
theorem dX8_takeHandle_20 : decode cX8_takeHandle 20 = .ok (.ifCond .le 5, 3) := by decide +kernel
theorem dX8_takeHandle_23 : decode cX8_takeHandle 23 = .ok (.iconst 0, 1) := by decide +kernel
theorem dX8_takeHandle_24 : decode cX8_takeHandle 24 = .ok (.ireturn, 1) := by decide +kernel
theorem dX8_takeHandle_25 : decode cX8_takeHandle 25 = .ok (.aload_n 0, 1) := by decide +kernel
theorem dX8_takeHandle_26 : decode cX8_takeHandle 26 = .ok (.invokevirtual 110, 3) := by decide +kernel
theorem dX8_takeHandle_29 : decode cX8_takeHandle 29 = .ok (.aload_n 0, 1) := by decide +kernel
theorem dX8_takeHandle_30 : decode cX8_takeHandle 30 = .ok (.iload_n 1, 1) := by decide +kernel
theorem dX8_takeHandle_31 : decode cX8_takeHandle 31 = .ok (.invokevirtual 165, 3) := by decide +kernel
theorem dX8_takeHandle_34 : decode cX8_takeHandle 34 = .ok (.ifCond .ne 5, 3) := by decide +kernel
theorem dX8_takeHandle_37 : decode cX8_takeHandle 37 = .ok (.iconst 0, 1) := by decide +kernel
theorem dX8_takeHandle_38 : decode cX8_takeHandle 38 = .ok (.ireturn, 1) := by decide +kernel
theorem dX8_takeHandle_39 : decode cX8_takeHandle 39 = .ok (.iconst 0, 1) := by decide +kernel
theorem dX8_takeHandle_40 : decode cX8_takeHandle 40 = .ok (.istore_n 2, 1) := by decide +kernel
theorem dX8_takeHandle_41 : decode cX8_takeHandle 41 = .ok (.iload_n 2, 1) := by decide +kernel
theorem dX8_takeHandle_42 : decode cX8_takeHandle 42 = .ok (.iconst 4, 1) := by decide +kernel
theorem dX8_takeHandle_43 : decode cX8_takeHandle 43 = .ok (.if_icmp .ge 24, 3) := by decide +kernel
theorem dX8_takeHandle_46 : decode cX8_takeHandle 46 = .ok (.aload_n 0, 1) := by decide +kernel
theorem dX8_takeHandle_47 : decode cX8_takeHandle 47 = .ok (.getfield 7, 3) := by decide +kernel
theorem dX8_takeHandle_50 : decode cX8_takeHandle 50 = .ok (.bipush 50, 2) := by decide +kernel
theorem dX8_takeHandle_52 : decode cX8_takeHandle 52 = .ok (.iload_n 2, 1) := by decide +kernel
theorem dX8_takeHandle_53 : decode cX8_takeHandle 53 = .ok (.iadd, 1) := by decide +kernel
theorem dX8_takeHandle_54 : decode cX8_takeHandle 54 = .ok (.aload_n 0, 1) := by decide +kernel
theorem dX8_takeHandle_55 : decode cX8_takeHandle 55 = .ok (.getfield 31, 3) := by decide +kernel
theorem dX8_takeHandle_58 : decode cX8_takeHandle 58 = .ok (.iload_n 2, 1) := by decide +kernel
theorem dX8_takeHandle_59 : decode cX8_takeHandle 59 = .ok (.iaload, 1) := by decide +kernel
theorem dX8_takeHandle_60 : decode cX8_takeHandle 60 = .ok (.iastore, 1) := by decide +kernel
theorem dX8_takeHandle_61 : decode cX8_takeHandle 61 = .ok (.iinc 2 1, 3) := by decide +kernel
theorem dX8_takeHandle_64 : decode cX8_takeHandle 64 = .ok (.goto (-23), 3) := by decide +kernel
theorem dX8_takeHandle_67 : decode cX8_takeHandle 67 = .ok (.iconst 1, 1) := by decide +kernel
theorem dX8_takeHandle_68 : decode cX8_takeHandle 68 = .ok (.ireturn, 1) := by decide +kernel
theorem dX8_append_0 : decode cX8_append 0 = .ok (.aload_n 0, 1) := by decide +kernel
theorem dX8_append_1 : decode cX8_append 1 = .ok (.iload_n 1, 1) := by decide +kernel
theorem dX8_append_2 : decode cX8_append 2 = .ok (.bipush 33, 2) := by decide +kernel
theorem dX8_append_4 : decode cX8_append 4 = .ok (.bipush 126, 2) := by decide +kernel
theorem dX8_append_6 : decode cX8_append 6 = .ok (.invokestatic 48, 3) := by decide +kernel
theorem dX8_append_9 : decode cX8_append 9 = .ok (.ifCond .ne 7, 3) := by decide +kernel
theorem dX8_append_12 : decode cX8_append 12 = .ok (.iconst 1, 1) := by decide +kernel
theorem dX8_append_13 : decode cX8_append 13 = .ok (.goto 17, 3) := by decide +kernel
theorem dX8_append_16 : decode cX8_append 16 = .ok (.aload_n 0, 1) := by decide +kernel
theorem dX8_append_17 : decode cX8_append 17 = .ok (.getfield 168, 3) := by decide +kernel
theorem dX8_append_20 : decode cX8_append 20 = .ok (.bipush 60, 2) := by decide +kernel
theorem dX8_append_22 : decode cX8_append 22 = .ok (.if_icmp .ne 7, 3) := by decide +kernel
theorem dX8_append_25 : decode cX8_append 25 = .ok (.iconst 2, 1) := by decide +kernel
theorem dX8_append_26 : decode cX8_append 26 = .ok (.goto 4, 3) := by decide +kernel
theorem dX8_append_29 : decode cX8_append 29 = .ok (.iconst 0, 1) := by decide +kernel
theorem dX8_append_30 : decode cX8_append 30 = .ok (.putfield 41, 3) := by decide +kernel
theorem dX8_append_33 : decode cX8_append 33 = .ok (.aload_n 0, 1) := by decide +kernel
theorem dX8_append_34 : decode cX8_append 34 = .ok (.getfield 41, 3) := by decide +kernel
theorem dX8_append_37 : decode cX8_append 37 = .ok (.ifCond .le 5, 3) := by decide +kernel
theorem dX8_append_40 : decode cX8_append 40 = .ok (.iconst 0, 1) := by decide +kernel
theorem dX8_append_41 : decode cX8_append 41 = .ok (.ireturn, 1) := by decide +kernel
theorem dX8_append_42 : decode cX8_append 42 = .ok (.aload_n 0, 1) := by decide +kernel
theorem dX8_append_43 : decode cX8_append 43 = .ok (.getfield 22, 3) := by decide +kernel
theorem dX8_append_46 : decode cX8_append 46 = .ok (.aload_n 0, 1) := by decide +kernel
theorem dX8_append_47 : decode cX8_append 47 = .ok (.getfield 168, 3) := by decide +kernel
theorem dX8_append_50 : decode cX8_append 50 = .ok (.iload_n 1, 1) := by decide +kernel
theorem dX8_append_51 : decode cX8_append 51 = .ok (.iastore, 1) := by decide +kernel
theorem dX8_append_52 : decode cX8_append 52 = .ok (.aload_n 0, 1) := by decide +kernel
theorem dX8_append_53 : decode cX8_append 53 = .ok (.dup, 1) := by decide +kernel
theorem dX8_append_54 : decode cX8_append 54 = .ok (.getfield 168, 3) := by decide +kernel
theorem dX8_append_57 : decode cX8_append 57 = .ok (.iconst 1, 1) := by decide +kernel
theorem dX8_append_58 : decode cX8_append 58 = .ok (.iadd, 1) := by decide +kernel
theorem dX8_append_59 : decode cX8_append 59 = .ok (.putfield 168, 3) := by decide +kernel
theorem dX8_append_62 : decode cX8_append 62 = .ok (.aload_n 0, 1) := by decide +kernel
theorem dX8_append_63 : decode cX8_append 63 = .ok (.getfield 168, 3) := by decide +kernel
theorem dX8_append_66 : decode cX8_append 66 = .ok (.ireturn, 1) := by decide +kernel
theorem dX8_clearBuffer_0 : decode cX8_clearBuffer 0 = .ok (.aload_n 0, 1) := by decide +kernel
theorem dX8_clearBuffer_1 : decode cX8_clearBuffer 1 = .ok (.iconst 0, 1) := by decide +kernel
theorem dX8_clearBuffer_2 : decode cX8_clearBuffer 2 = .ok (.putfield 41, 3) := by decide +kernel
theorem dX8_clearBuffer_5 : decode cX8_clearBuffer 5 = .ok (.aload_n 0, 1) := by decide +kernel
theorem dX8_clearBuffer_6 : decode cX8_clearBuffer 6 = .ok (.getfield 168, 3) := by decide +kernel
theorem dX8_clearBuffer_9 : decode cX8_clearBuffer 9 = .ok (.istore_n 1, 1) := by decide +kernel
theorem dX8_clearBuffer_10 : decode cX8_clearBuffer 10 = .ok (.aload_n 0, 1) := by decide +kernel
theorem dX8_clearBuffer_11 : decode cX8_clearBuffer 11 = .ok (.iconst 0, 1) := by decide +kernel
theorem dX8_clearBuffer_12 : decode cX8_clearBuffer 12 = .ok (.putfield 168, 3) := by decide +kernel
theorem dX8_clearBuffer_15 : decode cX8_clearBuffer 15 = .ok (.iload_n 1, 1) := by decide +kernel
theorem dX8_clearBuffer_16 : decode cX8_clearBuffer 16 = .ok (.ireturn, 1) := by decide +kernel
theorem dX8_canStand_0 : decode cX8_canStand 0 = .ok (.aload_n 0, 1) := by decide +kernel
theorem dX8_canStand_1 : decode cX8_canStand 1 = .ok (.getfield 22, 3) := by decide +kernel
theorem dX8_canStand_4 : decode cX8_canStand 4 = .ok (.iload_n 1, 1) := by decide +kernel
theorem dX8_canStand_5 : decode cX8_canStand 5 = .ok (.iaload, 1) := by decide +kernel
theorem dX8_canStand_6 : decode cX8_canStand 6 = .ok (.bipush 48, 2) := by decide +kernel
theorem dX8_canStand_8 : decode cX8_canStand 8 = .ok (.isub, 1) := by decide +kernel
theorem dX8_canStand_9 : decode cX8_canStand 9 = .ok (.istore_n 2, 1) := by decide +kernel
theorem dX8_canStand_10 : decode cX8_canStand 10 = .ok (.iload_n 1, 1) := by decide +kernel
theorem dX8_canStand_11 : decode cX8_canStand 11 = .ok (.iconst 3, 1) := by decide +kernel
theorem dX8_canStand_12 : decode cX8_canStand 12 = .ok (.irem, 1) := by decide +kernel
theorem dX8_canStand_13 : decode cX8_canStand 13 = .ok (.ifCond .ne 17, 3) := by decide +kernel
theorem dX8_canStand_16 : decode cX8_canStand 16 = .ok (.iload_n 2, 1) := by decide +kernel
theorem dX8_canStand_17 : decode cX8_canStand 17 = .ok (.iconst 0, 1) := by decide +kernel
theorem dX8_canStand_18 : decode cX8_canStand 18 = .ok (.aload_n 0, 1) := by decide +kernel
theorem dX8_canStand_19 : decode cX8_canStand 19 = .ok (.getfield 7, 3) := by decide +kernel
theorem dX8_canStand_22 : decode cX8_canStand 22 = .ok (.iconst 0, 1) := by decide +kernel
theorem dX8_canStand_23 : decode cX8_canStand 23 = .ok (.iaload, 1) := by decide +kernel
theorem dX8_canStand_24 : decode cX8_canStand 24 = .ok (.iconst 2, 1) := by decide +kernel
theorem dX8_canStand_25 : decode cX8_canStand 25 = .ok (.isub, 1) := by decide +kernel
theorem dX8_canStand_26 : decode cX8_canStand 26 = .ok (.invokestatic 48, 3) := by decide +kernel
theorem dX8_canStand_29 : decode cX8_canStand 29 = .ok (.ireturn, 1) := by decide +kernel
theorem dX8_canStand_30 : decode cX8_canStand 30 = .ok (.iload_n 1, 1) := by decide +kernel
theorem dX8_canStand_31 : decode cX8_canStand 31 = .ok (.iconst 3, 1) := by decide +kernel
theorem dX8_canStand_32 : decode cX8_canStand 32 = .ok (.irem, 1) := by decide +kernel
theorem dX8_canStand_33 : decode cX8_canStand 33 = .ok (.iconst 1, 1) := by decide +kernel
theorem dX8_canStand_34 : decode cX8_canStand 34 = .ok (.if_icmp .ne 31, 3) := by decide +kernel
theorem dX8_canStand_37 : decode cX8_canStand 37 = .ok (.iload_n 2, 1) := by decide +kernel
theorem dX8_canStand_38 : decode cX8_canStand 38 = .ok (.aload_n 0, 1) := by decide +kernel
theorem dX8_canStand_39 : decode cX8_canStand 39 = .ok (.getfield 22, 3) := by decide +kernel
theorem dX8_canStand_42 : decode cX8_canStand 42 = .ok (.iload_n 1, 1) := by decide +kernel
theorem dX8_canStand_43 : decode cX8_canStand 43 = .ok (.iconst 1, 1) := by decide +kernel
theorem dX8_canStand_44 : decode cX8_canStand 44 = .ok (.isub, 1) := by decide +kernel
theorem dX8_canStand_45 : decode cX8_canStand 45 = .ok (.iaload, 1) := by decide +kernel
theorem dX8_canStand_46 : decode cX8_canStand 46 = .ok (.bipush 48, 2) := by decide +kernel
theorem dX8_canStand_48 : decode cX8_canStand 48 = .ok (.isub, 1) := by decide +kernel
theorem dX8_canStand_49 : decode cX8_canStand 49 = .ok (.iconst 1, 1) := by decide +kernel
theorem dX8_canStand_50 : decode cX8_canStand 50 = .ok (.iadd, 1) := by decide +kernel
theorem dX8_canStand_51 : decode cX8_canStand 51 = .ok (.aload_n 0, 1) := by decide +kernel
theorem dX8_canStand_52 : decode cX8_canStand 52 = .ok (.getfield 7, 3) := by decide +kernel
theorem dX8_canStand_55 : decode cX8_canStand 55 = .ok (.iconst 0, 1) := by decide +kernel
theorem dX8_canStand_56 : decode cX8_canStand 56 = .ok (.iaload, 1) := by decide +kernel
theorem dX8_canStand_57 : decode cX8_canStand 57 = .ok (.iconst 1, 1) := by decide +kernel
theorem dX8_canStand_58 : decode cX8_canStand 58 = .ok (.isub, 1) := by decide +kernel
theorem dX8_canStand_59 : decode cX8_canStand 59 = .ok (.invokestatic 48, 3) := by decide +kernel
theorem dX8_canStand_62 : decode cX8_canStand 62 = .ok (.goto 19, 3) := by decide +kernel
theorem dX8_canStand_65 : decode cX8_canStand 65 = .ok (.aload_n 0, 1) := by decide +kernel
theorem dX8_canStand_66 : decode cX8_canStand 66 = .ok (.getfield 22, 3) := by decide +kernel
theorem dX8_canStand_69 : decode cX8_canStand 69 = .ok (.iload_n 1, 1) := by decide +kernel
theorem dX8_canStand_70 : decode cX8_canStand 70 = .ok (.iaload, 1) := by decide +kernel
theorem dX8_canStand_71 : decode cX8_canStand 71 = .ok (.bipush 44, 2) := by decide +kernel
theorem dX8_canStand_73 : decode cX8_canStand 73 = .ok (.if_icmp .ne 7, 3) := by decide +kernel
theorem dX8_canStand_76 : decode cX8_canStand 76 = .ok (.iconst 1, 1) := by decide +kernel
theorem dX8_canStand_77 : decode cX8_canStand 77 = .ok (.goto 4, 3) := by decide +kernel
theorem dX8_canStand_80 : decode cX8_canStand 80 = .ok (.iconst 0, 1) := by decide +kernel
theorem dX8_canStand_81 : decode cX8_canStand 81 = .ok (.ireturn, 1) := by decide +kernel
theorem dX8_rightUpTo_0 : decode cX8_rightUpTo 0 = .ok (.iconst 0, 1) := by decide +kernel
theorem dX8_rightUpTo_1 : decode cX8_rightUpTo 1 = .ok (.istore_n 1, 1) := by decide +kernel
theorem dX8_rightUpTo_2 : decode cX8_rightUpTo 2 = .ok (.iload_n 1, 1) := by decide +kernel
theorem dX8_rightUpTo_3 : decode cX8_rightUpTo 3 = .ok (.aload_n 0, 1) := by decide +kernel
theorem dX8_rightUpTo_4 : decode cX8_rightUpTo 4 = .ok (.getfield 168, 3) := by decide +kernel
theorem dX8_rightUpTo_7 : decode cX8_rightUpTo 7 = .ok (.if_icmp .ge 17, 3) := by decide +kernel
theorem dX8_rightUpTo_10 : decode cX8_rightUpTo 10 = .ok (.aload_n 0, 1) := by decide +kernel
theorem dX8_rightUpTo_11 : decode cX8_rightUpTo 11 = .ok (.iload_n 1, 1) := by decide +kernel
theorem dX8_rightUpTo_12 : decode cX8_rightUpTo 12 = .ok (.invokevirtual 171, 3) := by decide +kernel
theorem dX8_rightUpTo_15 : decode cX8_rightUpTo 15 = .ok (.ifCond .eq 9, 3) := by decide +kernel
theorem dX8_rightUpTo_18 : decode cX8_rightUpTo 18 = .ok (.iinc 1 1, 3) := by decide +kernel
theorem dX8_rightUpTo_21 : decode cX8_rightUpTo 21 = .ok (.goto (-19), 3) := by decide +kernel
theorem dX8_rightUpTo_24 : decode cX8_rightUpTo 24 = .ok (.iload_n 1, 1) := by decide +kernel
theorem dX8_rightUpTo_25 : decode cX8_rightUpTo 25 = .ok (.ireturn, 1) := by decide +kernel
theorem dX8_firstError_0 : decode cX8_firstError 0 = .ok (.aload_n 0, 1) := by decide +kernel
theorem dX8_firstError_1 : decode cX8_firstError 1 = .ok (.iconst 0, 1) := by decide +kernel
theorem dX8_firstError_2 : decode cX8_firstError 2 = .ok (.putfield 41, 3) := by decide +kernel
theorem dX8_firstError_5 : decode cX8_firstError 5 = .ok (.aload_n 0, 1) := by decide +kernel
theorem dX8_firstError_6 : decode cX8_firstError 6 = .ok (.invokevirtual 174, 3) := by decide +kernel
theorem dX8_firstError_9 : decode cX8_firstError 9 = .ok (.ireturn, 1) := by decide +kernel
theorem dX8_read_0 : decode cX8_read 0 = .ok (.aload_n 0, 1) := by decide +kernel
theorem dX8_read_1 : decode cX8_read 1 = .ok (.aload_n 0, 1) := by decide +kernel
theorem dX8_read_2 : decode cX8_read 2 = .ok (.invokevirtual 174, 3) := by decide +kernel
theorem dX8_read_5 : decode cX8_read 5 = .ok (.aload_n 0, 1) := by decide +kernel
theorem dX8_read_6 : decode cX8_read 6 = .ok (.getfield 168, 3) := by decide +kernel
theorem dX8_read_9 : decode cX8_read 9 = .ok (.if_icmp .ne 17, 3) := by decide +kernel
theorem dX8_read_12 : decode cX8_read 12 = .ok (.aload_n 0, 1) := by decide +kernel
theorem dX8_read_13 : decode cX8_read 13 = .ok (.getfield 168, 3) := by decide +kernel
theorem dX8_read_16 : decode cX8_read 16 = .ok (.iconst 3, 1) := by decide +kernel
theorem dX8_read_17 : decode cX8_read 17 = .ok (.irem, 1) := by decide +kernel
theorem dX8_read_18 : decode cX8_read 18 = .ok (.iconst 2, 1) := by decide +kernel
theorem dX8_read_19 : decode cX8_read 19 = .ok (.if_icmp .ne 7, 3) := by decide +kernel
theorem dX8_read_22 : decode cX8_read 22 = .ok (.iconst 0, 1) := by decide +kernel
theorem dX8_read_23 : decode cX8_read 23 = .ok (.goto 4, 3) := by decide +kernel
theorem dX8_read_26 : decode cX8_read 26 = .ok (.iconst 1, 1) := by decide +kernel
theorem dX8_read_27 : decode cX8_read 27 = .ok (.putfield 41, 3) := by decide +kernel
theorem dX8_read_30 : decode cX8_read 30 = .ok (.aload_n 0, 1) := by decide +kernel
theorem dX8_read_31 : decode cX8_read 31 = .ok (.getfield 41, 3) := by decide +kernel
theorem dX8_read_34 : decode cX8_read 34 = .ok (.ifCond .le 5, 3) := by decide +kernel
theorem dX8_read_37 : decode cX8_read 37 = .ok (.iconst 0, 1) := by decide +kernel
theorem dX8_read_38 : decode cX8_read 38 = .ok (.ireturn, 1) := by decide +kernel
theorem dX8_read_39 : decode cX8_read 39 = .ok (.aload_n 0, 1) := by decide +kernel
theorem dX8_read_40 : decode cX8_read 40 = .ok (.invokevirtual 110, 3) := by decide +kernel
theorem dX8_read_43 : decode cX8_read 43 = .ok (.iconst 0, 1) := by decide +kernel
theorem dX8_read_44 : decode cX8_read 44 = .ok (.istore_n 1, 1) := by decide +kernel
theorem dX8_read_45 : decode cX8_read 45 = .ok (.iload_n 1, 1) := by decide +kernel
theorem dX8_read_46 : decode cX8_read 46 = .ok (.aload_n 0, 1) := by decide +kernel
theorem dX8_read_47 : decode cX8_read 47 = .ok (.getfield 168, 3) := by decide +kernel
theorem dX8_read_50 : decode cX8_read 50 = .ok (.if_icmp .ge 34, 3) := by decide +kernel
theorem dX8_read_53 : decode cX8_read 53 = .ok (.aload_n 0, 1) := by decide +kernel
theorem dX8_read_54 : decode cX8_read 54 = .ok (.aload_n 0, 1) := by decide +kernel
theorem dX8_read_55 : decode cX8_read 55 = .ok (.getfield 22, 3) := by decide +kernel
theorem dX8_read_58 : decode cX8_read 58 = .ok (.iload_n 1, 1) := by decide +kernel
theorem dX8_read_59 : decode cX8_read 59 = .ok (.iaload, 1) := by decide +kernel
theorem dX8_read_60 : decode cX8_read 60 = .ok (.bipush 48, 2) := by decide +kernel
theorem dX8_read_62 : decode cX8_read 62 = .ok (.isub, 1) := by decide +kernel
theorem dX8_read_63 : decode cX8_read 63 = .ok (.aload_n 0, 1) := by decide +kernel
theorem dX8_read_64 : decode cX8_read 64 = .ok (.getfield 22, 3) := by decide +kernel
theorem dX8_read_67 : decode cX8_read 67 = .ok (.iload_n 1, 1) := by decide +kernel
theorem dX8_read_68 : decode cX8_read 68 = .ok (.iconst 1, 1) := by decide +kernel
theorem dX8_read_69 : decode cX8_read 69 = .ok (.iadd, 1) := by decide +kernel
theorem dX8_read_70 : decode cX8_read 70 = .ok (.iaload, 1) := by decide +kernel
theorem dX8_read_71 : decode cX8_read 71 = .ok (.bipush 48, 2) := by decide +kernel
theorem dX8_read_73 : decode cX8_read 73 = .ok (.isub, 1) := by decide +kernel
theorem dX8_read_74 : decode cX8_read 74 = .ok (.iconst 1, 1) := by decide +kernel
theorem dX8_read_75 : decode cX8_read 75 = .ok (.invokevirtual 116, 3) := by decide +kernel
theorem dX8_read_78 : decode cX8_read 78 = .ok (.iinc 1 3, 3) := by decide +kernel
theorem dX8_read_81 : decode cX8_read 81 = .ok (.goto (-36), 3) := by decide +kernel
theorem dX8_read_84 : decode cX8_read 84 = .ok (.aload_n 0, 1) := by decide +kernel
theorem dX8_read_85 : decode cX8_read 85 = .ok (.iconst 0, 1) := by decide +kernel
theorem dX8_read_86 : decode cX8_read 86 = .ok (.putfield 168, 3) := by decide +kernel
theorem dX8_read_89 : decode cX8_read 89 = .ok (.aload_n 0, 1) := by decide +kernel
theorem dX8_read_90 : decode cX8_read 90 = .ok (.invokevirtual 120, 3) := by decide +kernel
theorem dX8_read_93 : decode cX8_read 93 = .ok (.ireturn, 1) := by decide +kernel
theorem dX8_take_0 : decode cX8_take 0 = .ok (.aload_n 0, 1) := by decide +kernel
theorem dX8_take_1 : decode cX8_take 1 = .ok (.iload_n 1, 1) := by decide +kernel
theorem dX8_take_2 : decode cX8_take 2 = .ok (.invokestatic 135, 3) := by decide +kernel
theorem dX8_take_5 : decode cX8_take 5 = .ok (.ifCond .eq 7, 3) := by decide +kernel
theorem dX8_take_8 : decode cX8_take 8 = .ok (.iconst 0, 1) := by decide +kernel
theorem dX8_take_9 : decode cX8_take 9 = .ok (.goto 4, 3) := by decide +kernel
theorem dX8_take_12 : decode cX8_take 12 = .ok (.iconst 1, 1) := by decide +kernel
theorem dX8_take_13 : decode cX8_take 13 = .ok (.putfield 41, 3) := by decide +kernel
theorem dX8_take_16 : decode cX8_take 16 = .ok (.aload_n 0, 1) := by decide +kernel
theorem dX8_take_17 : decode cX8_take 17 = .ok (.getfield 41, 3) := by decide +kernel
theorem dX8_take_20 : decode cX8_take 20 = .ok (.ifCond .le 5, 3) := by decide +kernel
theorem dX8_take_23 : decode cX8_take 23 = .ok (.iconst 0, 1) := by decide +kernel
theorem dX8_take_24 : decode cX8_take 24 = .ok (.ireturn, 1) := by decide +kernel
theorem dX8_take_25 : decode cX8_take 25 = .ok (.aload_n 0, 1) := by decide +kernel
theorem dX8_take_26 : decode cX8_take 26 = .ok (.getfield 19, 3) := by decide +kernel
theorem dX8_take_29 : decode cX8_take 29 = .ok (.iload_n 1, 1) := by decide +kernel
theorem dX8_take_30 : decode cX8_take 30 = .ok (.iconst 1, 1) := by decide +kernel
theorem dX8_take_31 : decode cX8_take 31 = .ok (.iastore, 1) := by decide +kernel
theorem dX8_take_32 : decode cX8_take 32 = .ok (.iconst 0, 1) := by decide +kernel
theorem dX8_take_33 : decode cX8_take 33 = .ok (.istore_n 2, 1) := by decide +kernel
theorem dX8_take_34 : decode cX8_take 34 = .ok (.iload_n 2, 1) := by decide +kernel
theorem dX8_take_35 : decode cX8_take 35 = .ok (.bipush 55, 2) := by decide +kernel
theorem dX8_take_37 : decode cX8_take 37 = .ok (.if_icmp .ge 26, 3) := by decide +kernel
theorem dX8_take_40 : decode cX8_take 40 = .ok (.aload_n 0, 1) := by decide +kernel
theorem dX8_take_41 : decode cX8_take 41 = .ok (.getfield 16, 3) := by decide +kernel
theorem dX8_take_44 : decode cX8_take 44 = .ok (.bipush 55, 2) := by decide +kernel
theorem dX8_take_46 : decode cX8_take 46 = .ok (.iload_n 1, 1) := by decide +kernel
theorem dX8_take_47 : decode cX8_take 47 = .ok (.imul, 1) := by decide +kernel
theorem dX8_take_48 : decode cX8_take 48 = .ok (.iload_n 2, 1) := by decide +kernel
theorem dX8_take_49 : decode cX8_take 49 = .ok (.iadd, 1) := by decide +kernel
theorem dX8_take_50 : decode cX8_take 50 = .ok (.aload_n 0, 1) := by decide +kernel
theorem dX8_take_51 : decode cX8_take 51 = .ok (.getfield 7, 3) := by decide +kernel
theorem dX8_take_54 : decode cX8_take 54 = .ok (.iload_n 2, 1) := by decide +kernel
theorem dX8_take_55 : decode cX8_take 55 = .ok (.iaload, 1) := by decide +kernel
theorem dX8_take_56 : decode cX8_take 56 = .ok (.iastore, 1) := by decide +kernel
theorem dX8_take_57 : decode cX8_take 57 = .ok (.iinc 2 1, 3) := by decide +kernel
theorem dX8_take_60 : decode cX8_take 60 = .ok (.goto (-26), 3) := by decide +kernel
theorem dX8_take_63 : decode cX8_take 63 = .ok (.aload_n 0, 1) := by decide +kernel
theorem dX8_take_64 : decode cX8_take 64 = .ok (.getfield 7, 3) := by decide +kernel
theorem dX8_take_67 : decode cX8_take 67 = .ok (.iconst 0, 1) := by decide +kernel
theorem dX8_take_68 : decode cX8_take 68 = .ok (.iaload, 1) := by decide +kernel
theorem dX8_take_69 : decode cX8_take 69 = .ok (.ireturn, 1) := by decide +kernel
theorem dX8_restore_0 : decode cX8_restore 0 = .ok (.aload_n 0, 1) := by decide +kernel
theorem dX8_restore_1 : decode cX8_restore 1 = .ok (.aload_n 0, 1) := by decide +kernel
theorem dX8_restore_2 : decode cX8_restore 2 = .ok (.iload_n 1, 1) := by decide +kernel
theorem dX8_restore_3 : decode cX8_restore 3 = .ok (.invokevirtual 138, 3) := by decide +kernel
theorem dX8_restore_6 : decode cX8_restore 6 = .ok (.putfield 41, 3) := by decide +kernel
theorem dX8_restore_9 : decode cX8_restore 9 = .ok (.aload_n 0, 1) := by decide +kernel
theorem dX8_restore_10 : decode cX8_restore 10 = .ok (.getfield 41, 3) := by decide +kernel
theorem dX8_restore_13 : decode cX8_restore 13 = .ok (.ifCond .le 5, 3) := by decide +kernel
theorem dX8_restore_16 : decode cX8_restore 16 = .ok (.iconst 0, 1) := by decide +kernel
theorem dX8_restore_17 : decode cX8_restore 17 = .ok (.ireturn, 1) := by decide +kernel
theorem dX8_restore_18 : decode cX8_restore 18 = .ok (.aload_n 0, 1) := by decide +kernel
theorem dX8_restore_19 : decode cX8_restore 19 = .ok (.invokevirtual 110, 3) := by decide +kernel
theorem dX8_restore_22 : decode cX8_restore 22 = .ok (.iconst 0, 1) := by decide +kernel
theorem dX8_restore_23 : decode cX8_restore 23 = .ok (.istore_n 2, 1) := by decide +kernel
theorem dX8_restore_24 : decode cX8_restore 24 = .ok (.iload_n 2, 1) := by decide +kernel
theorem dX8_restore_25 : decode cX8_restore 25 = .ok (.bipush 54, 2) := by decide +kernel
theorem dX8_restore_27 : decode cX8_restore 27 = .ok (.if_icmp .ge 21, 3) := by decide +kernel
theorem dX8_restore_30 : decode cX8_restore 30 = .ok (.aload_n 0, 1) := by decide +kernel
theorem dX8_restore_31 : decode cX8_restore 31 = .ok (.getfield 7, 3) := by decide +kernel
theorem dX8_restore_34 : decode cX8_restore 34 = .ok (.iload_n 2, 1) := by decide +kernel
theorem dX8_restore_35 : decode cX8_restore 35 = .ok (.aload_n 0, 1) := by decide +kernel
theorem dX8_restore_36 : decode cX8_restore 36 = .ok (.iload_n 1, 1) := by decide +kernel
theorem dX8_restore_37 : decode cX8_restore 37 = .ok (.iload_n 2, 1) := by decide +kernel
theorem dX8_restore_38 : decode cX8_restore 38 = .ok (.invokevirtual 129, 3) := by decide +kernel
theorem dX8_restore_41 : decode cX8_restore 41 = .ok (.iastore, 1) := by decide +kernel
theorem dX8_restore_42 : decode cX8_restore 42 = .ok (.iinc 2 1, 3) := by decide +kernel
theorem dX8_restore_45 : decode cX8_restore 45 = .ok (.goto (-21), 3) := by decide +kernel
theorem dX8_restore_48 : decode cX8_restore 48 = .ok (.aload_n 0, 1) := by decide +kernel
theorem dX8_restore_49 : decode cX8_restore 49 = .ok (.getfield 7, 3) := by decide +kernel
theorem dX8_restore_52 : decode cX8_restore 52 = .ok (.iconst 0, 1) := by decide +kernel
theorem dX8_restore_53 : decode cX8_restore 53 = .ok (.iaload, 1) := by decide +kernel
theorem dX8_restore_54 : decode cX8_restore 54 = .ok (.ireturn, 1) := by decide +kernel
theorem dX8_undo_0 : decode cX8_undo 0 = .ok (.aload_n 0, 1) := by decide +kernel
theorem dX8_undo_1 : decode cX8_undo 1 = .ok (.aload_n 0, 1) := by decide +kernel
theorem dX8_undo_2 : decode cX8_undo 2 = .ok (.getfield 45, 3) := by decide +kernel
theorem dX8_undo_5 : decode cX8_undo 5 = .ok (.ifCond .le 7, 3) := by decide +kernel
theorem dX8_undo_8 : decode cX8_undo 8 = .ok (.iconst 0, 1) := by decide +kernel
theorem dX8_undo_9 : decode cX8_undo 9 = .ok (.goto 4, 3) := by decide +kernel
theorem dX8_undo_12 : decode cX8_undo 12 = .ok (.iconst 1, 1) := by decide +kernel
theorem dX8_undo_13 : decode cX8_undo 13 = .ok (.putfield 41, 3) := by decide +kernel
theorem dX8_undo_16 : decode cX8_undo 16 = .ok (.aload_n 0, 1) := by decide +kernel
theorem dX8_undo_17 : decode cX8_undo 17 = .ok (.getfield 41, 3) := by decide +kernel
theorem dX8_undo_20 : decode cX8_undo 20 = .ok (.ifCond .le 5, 3) := by decide +kernel
theorem dX8_undo_23 : decode cX8_undo 23 = .ok (.iconst 0, 1) := by decide +kernel
theorem dX8_undo_24 : decode cX8_undo 24 = .ok (.ireturn, 1) := by decide +kernel
theorem dX8_undo_25 : decode cX8_undo 25 = .ok (.aload_n 0, 1) := by decide +kernel
theorem dX8_undo_26 : decode cX8_undo 26 = .ok (.dup, 1) := by decide +kernel
theorem dX8_undo_27 : decode cX8_undo 27 = .ok (.getfield 45, 3) := by decide +kernel
theorem dX8_undo_30 : decode cX8_undo 30 = .ok (.iconst 1, 1) := by decide +kernel
theorem dX8_undo_31 : decode cX8_undo 31 = .ok (.isub, 1) := by decide +kernel
theorem dX8_undo_32 : decode cX8_undo 32 = .ok (.putfield 45, 3) := by decide +kernel
theorem dX8_undo_35 : decode cX8_undo 35 = .ok (.iconst 0, 1) := by decide +kernel
theorem dX8_undo_36 : decode cX8_undo 36 = .ok (.istore_n 1, 1) := by decide +kernel
theorem dX8_undo_37 : decode cX8_undo 37 = .ok (.iload_n 1, 1) := by decide +kernel
theorem dX8_undo_38 : decode cX8_undo 38 = .ok (.bipush 55, 2) := by decide +kernel
theorem dX8_undo_40 : decode cX8_undo 40 = .ok (.if_icmp .ge 29, 3) := by decide +kernel
theorem dX8_undo_43 : decode cX8_undo 43 = .ok (.aload_n 0, 1) := by decide +kernel
theorem dX8_undo_44 : decode cX8_undo 44 = .ok (.getfield 7, 3) := by decide +kernel
theorem dX8_undo_47 : decode cX8_undo 47 = .ok (.iload_n 1, 1) := by decide +kernel
theorem dX8_undo_48 : decode cX8_undo 48 = .ok (.aload_n 0, 1) := by decide +kernel
theorem dX8_undo_49 : decode cX8_undo 49 = .ok (.getfield 13, 3) := by decide +kernel
theorem dX8_undo_52 : decode cX8_undo 52 = .ok (.bipush 55, 2) := by decide +kernel
theorem dX8_undo_54 : decode cX8_undo 54 = .ok (.aload_n 0, 1) := by decide +kernel
theorem dX8_undo_55 : decode cX8_undo 55 = .ok (.getfield 45, 3) := by decide +kernel
theorem dX8_undo_58 : decode cX8_undo 58 = .ok (.imul, 1) := by decide +kernel
theorem dX8_undo_59 : decode cX8_undo 59 = .ok (.iload_n 1, 1) := by decide +kernel
theorem dX8_undo_60 : decode cX8_undo 60 = .ok (.iadd, 1) := by decide +kernel
theorem dX8_undo_61 : decode cX8_undo 61 = .ok (.iaload, 1) := by decide +kernel
theorem dX8_undo_62 : decode cX8_undo 62 = .ok (.iastore, 1) := by decide +kernel
theorem dX8_undo_63 : decode cX8_undo 63 = .ok (.iinc 1 1, 3) := by decide +kernel
theorem dX8_undo_66 : decode cX8_undo 66 = .ok (.goto (-29), 3) := by decide +kernel
theorem dX8_undo_69 : decode cX8_undo 69 = .ok (.aload_n 0, 1) := by decide +kernel
theorem dX8_undo_70 : decode cX8_undo 70 = .ok (.getfield 45, 3) := by decide +kernel
theorem dX8_undo_73 : decode cX8_undo 73 = .ok (.ireturn, 1) := by decide +kernel
theorem dX8_joined_0 : decode cX8_joined 0 = .ok (.aload_n 0, 1) := by decide +kernel
theorem dX8_joined_1 : decode cX8_joined 1 = .ok (.aload_n 0, 1) := by decide +kernel
theorem dX8_joined_2 : decode cX8_joined 2 = .ok (.iload_n 1, 1) := by decide +kernel
theorem dX8_joined_3 : decode cX8_joined 3 = .ok (.invokevirtual 113, 3) := by decide +kernel
theorem dX8_joined_6 : decode cX8_joined 6 = .ok (.ifCond .eq 15, 3) := by decide +kernel
theorem dX8_joined_9 : decode cX8_joined 9 = .ok (.aload_n 0, 1) := by decide +kernel
theorem dX8_joined_10 : decode cX8_joined 10 = .ok (.iload_n 2, 1) := by decide +kernel
theorem dX8_joined_11 : decode cX8_joined 11 = .ok (.invokevirtual 113, 3) := by decide +kernel
theorem dX8_joined_14 : decode cX8_joined 14 = .ok (.ifCond .eq 7, 3) := by decide +kernel
theorem dX8_joined_17 : decode cX8_joined 17 = .ok (.iconst 0, 1) := by decide +kernel
theorem dX8_joined_18 : decode cX8_joined 18 = .ok (.goto 4, 3) := by decide +kernel
theorem dX8_joined_21 : decode cX8_joined 21 = .ok (.iconst 1, 1) := by decide +kernel
theorem dX8_joined_22 : decode cX8_joined 22 = .ok (.putfield 41, 3) := by decide +kernel
theorem dX8_joined_25 : decode cX8_joined 25 = .ok (.aload_n 0, 1) := by decide +kernel
theorem dX8_joined_26 : decode cX8_joined 26 = .ok (.getfield 41, 3) := by decide +kernel
theorem dX8_joined_29 : decode cX8_joined 29 = .ok (.ifCond .gt 12, 3) := by decide +kernel
theorem dX8_joined_32 : decode cX8_joined 32 = .ok (.aload_n 0, 1) := by decide +kernel
theorem dX8_joined_33 : decode cX8_joined 33 = .ok (.iload_n 1, 1) := by decide +kernel
theorem dX8_joined_34 : decode cX8_joined 34 = .ok (.iload_n 2, 1) := by decide +kernel
theorem dX8_joined_35 : decode cX8_joined 35 = .ok (.invokevirtual 67, 3) := by decide +kernel
theorem dX8_joined_38 : decode cX8_joined 38 = .ok (.ifCond .ne 7, 3) := by decide +kernel
theorem dX8_joined_41 : decode cX8_joined 41 = .ok (.iconst 0, 1) := by decide +kernel
theorem dX8_joined_42 : decode cX8_joined 42 = .ok (.goto 4, 3) := by decide +kernel
theorem dX8_joined_45 : decode cX8_joined 45 = .ok (.iconst 1, 1) := by decide +kernel
theorem dX8_joined_46 : decode cX8_joined 46 = .ok (.ireturn, 1) := by decide +kernel
theorem dX8_colorOf_0 : decode cX8_colorOf 0 = .ok (.aload_n 0, 1) := by decide +kernel
theorem dX8_colorOf_1 : decode cX8_colorOf 1 = .ok (.invokevirtual 147, 3) := by decide +kernel
theorem dX8_colorOf_4 : decode cX8_colorOf 4 = .ok (.istore_n 2, 1) := by decide +kernel
theorem dX8_colorOf_5 : decode cX8_colorOf 5 = .ok (.iload_n 2, 1) := by decide +kernel
theorem dX8_colorOf_6 : decode cX8_colorOf 6 = .ok (.ifCond .le 12, 3) := by decide +kernel
theorem dX8_colorOf_9 : decode cX8_colorOf 9 = .ok (.aload_n 0, 1) := by decide +kernel
theorem dX8_colorOf_10 : decode cX8_colorOf 10 = .ok (.getfield 25, 3) := by decide +kernel
theorem dX8_colorOf_13 : decode cX8_colorOf 13 = .ok (.iload_n 1, 1) := by decide +kernel
theorem dX8_colorOf_14 : decode cX8_colorOf 14 = .ok (.iaload, 1) := by decide +kernel
theorem dX8_colorOf_15 : decode cX8_colorOf 15 = .ok (.goto 4, 3) := by decide +kernel
theorem dX8_colorOf_18 : decode cX8_colorOf 18 = .ok (.iconst (-1), 1) := by decide +kernel
theorem dX8_colorOf_19 : decode cX8_colorOf 19 = .ok (.ireturn, 1) := by decide +kernel
theorem dX8_vertexNow_0 : decode cX8_vertexNow 0 = .ok (.iload_n 2, 1) := by decide +kernel
theorem dX8_vertexNow_1 : decode cX8_vertexNow 1 = .ok (.tableswitch 95 0 5 #[39, 45, 58, 71, 77, 83], 39) := by decide +kernel
theorem dX8_vertexNow_40 : decode cX8_vertexNow 40 = .ok (.aload_n 0, 1) := by decide +kernel
theorem dX8_vertexNow_41 : decode cX8_vertexNow 41 = .ok (.iload_n 1, 1) := by decide +kernel
theorem dX8_vertexNow_42 : decode cX8_vertexNow 42 = .ok (.invokevirtual 70, 3) := by decide +kernel
theorem dX8_vertexNow_45 : decode cX8_vertexNow 45 = .ok (.ireturn, 1) := by decide +kernel
theorem dX8_vertexNow_46 : decode cX8_vertexNow 46 = .ok (.aload_n 0, 1) := by decide +kernel
theorem dX8_vertexNow_47 : decode cX8_vertexNow 47 = .ok (.getfield 7, 3) := by decide +kernel
theorem dX8_vertexNow_50 : decode cX8_vertexNow 50 = .ok (.bipush 10, 2) := by decide +kernel
theorem dX8_vertexNow_52 : decode cX8_vertexNow 52 = .ok (.iload_n 1, 1) := by decide +kernel
theorem dX8_vertexNow_53 : decode cX8_vertexNow 53 = .ok (.iadd, 1) := by decide +kernel
theorem dX8_vertexNow_54 : decode cX8_vertexNow 54 = .ok (.iaload, 1) := by decide +kernel
theorem dX8_vertexNow_55 : decode cX8_vertexNow 55 = .ok (.invokestatic 64, 3) := by decide +kernel
theorem dX8_vertexNow_58 : decode cX8_vertexNow 58 = .ok (.ireturn, 1) := by decide +kernel
theorem dX8_vertexNow_59 : decode cX8_vertexNow 59 = .ok (.aload_n 0, 1) := by decide +kernel
theorem dX8_vertexNow_60 : decode cX8_vertexNow 60 = .ok (.iload_n 1, 1) := by decide +kernel
theorem dX8_vertexNow_61 : decode cX8_vertexNow 61 = .ok (.invokestatic 56, 3) := by decide +kernel
theorem dX8_vertexNow_64 : decode cX8_vertexNow 64 = .ok (.iload_n 1, 1) := by decide +kernel
theorem dX8_vertexNow_65 : decode cX8_vertexNow 65 = .ok (.invokestatic 56, 3) := by decide +kernel
theorem dX8_vertexNow_68 : decode cX8_vertexNow 68 = .ok (.invokevirtual 60, 3) := by decide +kernel
theorem dX8_vertexNow_71 : decode cX8_vertexNow 71 = .ok (.ireturn, 1) := by decide +kernel
theorem dX8_vertexNow_72 : decode cX8_vertexNow 72 = .ok (.aload_n 0, 1) := by decide +kernel
theorem dX8_vertexNow_73 : decode cX8_vertexNow 73 = .ok (.iload_n 1, 1) := by decide +kernel
theorem dX8_vertexNow_74 : decode cX8_vertexNow 74 = .ok (.invokevirtual 73, 3) := by decide +kernel
theorem dX8_vertexNow_77 : decode cX8_vertexNow 77 = .ok (.ireturn, 1) := by decide +kernel
theorem dX8_vertexNow_78 : decode cX8_vertexNow 78 = .ok (.aload_n 0, 1) := by decide +kernel
theorem dX8_vertexNow_79 : decode cX8_vertexNow 79 = .ok (.iload_n 1, 1) := by decide +kernel
theorem dX8_vertexNow_80 : decode cX8_vertexNow 80 = .ok (.invokevirtual 177, 3) := by decide +kernel
theorem dX8_vertexNow_83 : decode cX8_vertexNow 83 = .ok (.ireturn, 1) := by decide +kernel
theorem dX8_vertexNow_84 : decode cX8_vertexNow 84 = .ok (.aload_n 0, 1) := by decide +kernel
theorem dX8_vertexNow_85 : decode cX8_vertexNow 85 = .ok (.aload_n 0, 1) := by decide +kernel
theorem dX8_vertexNow_86 : decode cX8_vertexNow 86 = .ok (.iconst 1, 1) := by decide +kernel
theorem dX8_vertexNow_87 : decode cX8_vertexNow 87 = .ok (.iload_n 1, 1) := by decide +kernel
theorem dX8_vertexNow_88 : decode cX8_vertexNow 88 = .ok (.ishl, 1) := by decide +kernel
theorem dX8_vertexNow_89 : decode cX8_vertexNow 89 = .ok (.invokevirtual 180, 3) := by decide +kernel
theorem dX8_vertexNow_92 : decode cX8_vertexNow 92 = .ok (.invokevirtual 101, 3) := by decide +kernel
theorem dX8_vertexNow_95 : decode cX8_vertexNow 95 = .ok (.ireturn, 1) := by decide +kernel
theorem dX8_vertexNow_96 : decode cX8_vertexNow 96 = .ok (.aload_n 0, 1) := by decide +kernel
theorem dX8_vertexNow_97 : decode cX8_vertexNow 97 = .ok (.getfield 7, 3) := by decide +kernel
theorem dX8_vertexNow_100 : decode cX8_vertexNow 100 = .ok (.iload_n 1, 1) := by decide +kernel
theorem dX8_vertexNow_101 : decode cX8_vertexNow 101 = .ok (.invokestatic 56, 3) := by decide +kernel
theorem dX8_vertexNow_104 : decode cX8_vertexNow 104 = .ok (.iload_n 2, 1) := by decide +kernel
theorem dX8_vertexNow_105 : decode cX8_vertexNow 105 = .ok (.iadd, 1) := by decide +kernel
theorem dX8_vertexNow_106 : decode cX8_vertexNow 106 = .ok (.bipush 10, 2) := by decide +kernel
theorem dX8_vertexNow_108 : decode cX8_vertexNow 108 = .ok (.isub, 1) := by decide +kernel
theorem dX8_vertexNow_109 : decode cX8_vertexNow 109 = .ok (.iaload, 1) := by decide +kernel
theorem dX8_vertexNow_110 : decode cX8_vertexNow 110 = .ok (.ireturn, 1) := by decide +kernel
theorem dX8_vertex_0 : decode cX8_vertex 0 = .ok (.aload_n 0, 1) := by decide +kernel
theorem dX8_vertex_1 : decode cX8_vertex 1 = .ok (.aload_n 0, 1) := by decide +kernel
theorem dX8_vertex_2 : decode cX8_vertex 2 = .ok (.iload_n 1, 1) := by decide +kernel
theorem dX8_vertex_3 : decode cX8_vertex 3 = .ok (.invokevirtual 113, 3) := by decide +kernel
theorem dX8_vertex_6 : decode cX8_vertex 6 = .ok (.ifCond .ne 7, 3) := by decide +kernel
theorem dX8_vertex_9 : decode cX8_vertex 9 = .ok (.iconst 1, 1) := by decide +kernel
theorem dX8_vertex_10 : decode cX8_vertex 10 = .ok (.goto 28, 3) := by decide +kernel
theorem dX8_vertex_13 : decode cX8_vertex 13 = .ok (.iload_n 2, 1) := by decide +kernel
theorem dX8_vertex_14 : decode cX8_vertex 14 = .ok (.iconst 0, 1) := by decide +kernel
theorem dX8_vertex_15 : decode cX8_vertex 15 = .ok (.iconst 5, 1) := by decide +kernel
theorem dX8_vertex_16 : decode cX8_vertex 16 = .ok (.invokestatic 48, 3) := by decide +kernel
theorem dX8_vertex_19 : decode cX8_vertex 19 = .ok (.ifCond .ne 14, 3) := by decide +kernel
theorem dX8_vertex_22 : decode cX8_vertex 22 = .ok (.iload_n 2, 1) := by decide +kernel
theorem dX8_vertex_23 : decode cX8_vertex 23 = .ok (.bipush 10, 2) := by decide +kernel
theorem dX8_vertex_25 : decode cX8_vertex 25 = .ok (.bipush 13, 2) := by decide +kernel
theorem dX8_vertex_27 : decode cX8_vertex 27 = .ok (.invokestatic 48, 3) := by decide +kernel
theorem dX8_vertex_30 : decode cX8_vertex 30 = .ok (.ifCond .eq 7, 3) := by decide +kernel
theorem dX8_vertex_33 : decode cX8_vertex 33 = .ok (.iconst 0, 1) := by decide +kernel
theorem dX8_vertex_34 : decode cX8_vertex 34 = .ok (.goto 4, 3) := by decide +kernel
theorem dX8_vertex_37 : decode cX8_vertex 37 = .ok (.iconst 2, 1) := by decide +kernel
theorem dX8_vertex_38 : decode cX8_vertex 38 = .ok (.putfield 41, 3) := by decide +kernel
theorem dX8_vertex_41 : decode cX8_vertex 41 = .ok (.aload_n 0, 1) := by decide +kernel
theorem dX8_vertex_42 : decode cX8_vertex 42 = .ok (.getfield 41, 3) := by decide +kernel
theorem dX8_vertex_45 : decode cX8_vertex 45 = .ok (.ifCond .le 7, 3) := by decide +kernel
theorem dX8_vertex_48 : decode cX8_vertex 48 = .ok (.iconst 0, 1) := by decide +kernel
theorem dX8_vertex_49 : decode cX8_vertex 49 = .ok (.goto 9, 3) := by decide +kernel
theorem dX8_vertex_52 : decode cX8_vertex 52 = .ok (.aload_n 0, 1) := by decide +kernel
theorem dX8_vertex_53 : decode cX8_vertex 53 = .ok (.iload_n 1, 1) := by decide +kernel
theorem dX8_vertex_54 : decode cX8_vertex 54 = .ok (.iload_n 2, 1) := by decide +kernel
theorem dX8_vertex_55 : decode cX8_vertex 55 = .ok (.invokevirtual 183, 3) := by decide +kernel
theorem dX8_vertex_58 : decode cX8_vertex 58 = .ok (.ireturn, 1) := by decide +kernel
theorem dX8_handle_0 : decode cX8_handle 0 = .ok (.aload_n 0, 1) := by decide +kernel
theorem dX8_handle_1 : decode cX8_handle 1 = .ok (.aload_n 0, 1) := by decide +kernel
theorem dX8_handle_2 : decode cX8_handle 2 = .ok (.iload_n 1, 1) := by decide +kernel
theorem dX8_handle_3 : decode cX8_handle 3 = .ok (.invokevirtual 144, 3) := by decide +kernel
theorem dX8_handle_6 : decode cX8_handle 6 = .ok (.ifCond .eq 7, 3) := by decide +kernel
theorem dX8_handle_9 : decode cX8_handle 9 = .ok (.iconst 0, 1) := by decide +kernel
theorem dX8_handle_10 : decode cX8_handle 10 = .ok (.goto 4, 3) := by decide +kernel
theorem dX8_handle_13 : decode cX8_handle 13 = .ok (.iconst 1, 1) := by decide +kernel
theorem dX8_handle_14 : decode cX8_handle 14 = .ok (.putfield 41, 3) := by decide +kernel
theorem dX8_handle_17 : decode cX8_handle 17 = .ok (.aload_n 0, 1) := by decide +kernel
theorem dX8_handle_18 : decode cX8_handle 18 = .ok (.getfield 41, 3) := by decide +kernel
theorem dX8_handle_21 : decode cX8_handle 21 = .ok (.ifCond .le 7, 3) := by decide +kernel
theorem dX8_handle_24 : decode cX8_handle 24 = .ok (.iconst 0, 1) := by decide +kernel
theorem dX8_handle_25 : decode cX8_handle 25 = .ok (.goto 12, 3) := by decide +kernel
theorem dX8_handle_28 : decode cX8_handle 28 = .ok (.aload_n 0, 1) := by decide +kernel
theorem dX8_handle_29 : decode cX8_handle 29 = .ok (.getfield 7, 3) := by decide +kernel
theorem dX8_handle_32 : decode cX8_handle 32 = .ok (.bipush 50, 2) := by decide +kernel
theorem dX8_handle_34 : decode cX8_handle 34 = .ok (.iload_n 1, 1) := by decide +kernel
theorem dX8_handle_35 : decode cX8_handle 35 = .ok (.iadd, 1) := by decide +kernel
theorem dX8_handle_36 : decode cX8_handle 36 = .ok (.iaload, 1) := by decide +kernel
theorem dX8_handle_37 : decode cX8_handle 37 = .ok (.ireturn, 1) := by decide +kernel
theorem dX8_boundNow_0 : decode cX8_boundNow 0 = .ok (.aload_n 0, 1) := by decide +kernel
theorem dX8_boundNow_1 : decode cX8_boundNow 1 = .ok (.invokevirtual 186, 3) := by decide +kernel
theorem dX8_boundNow_4 : decode cX8_boundNow 4 = .ok (.ifCond .le 7, 3) := by decide +kernel
theorem dX8_boundNow_7 : decode cX8_boundNow 7 = .ok (.ldc2_w 189, 3) := by decide +kernel
theorem dX8_boundNow_10 : decode cX8_boundNow 10 = .ok (.lreturn, 1) := by decide +kernel
theorem dX8_boundNow_11 : decode cX8_boundNow 11 = .ok (.aload_n 0, 1) := by decide +kernel
theorem dX8_boundNow_12 : decode cX8_boundNow 12 = .ok (.invokevirtual 156, 3) := by decide +kernel
theorem dX8_boundNow_15 : decode cX8_boundNow 15 = .ok (.iload_n 1, 1) := by decide +kernel
theorem dX8_boundNow_16 : decode cX8_boundNow 16 = .ok (.ifCond .ne 10, 3) := by decide +kernel
theorem dX8_boundNow_19 : decode cX8_boundNow 19 = .ok (.aload_n 0, 1) := by decide +kernel
theorem dX8_boundNow_20 : decode cX8_boundNow 20 = .ok (.getfield 83, 3) := by decide +kernel
theorem dX8_boundNow_23 : decode cX8_boundNow 23 = .ok (.goto 20, 3) := by decide +kernel
theorem dX8_boundNow_26 : decode cX8_boundNow 26 = .ok (.iload_n 1, 1) := by decide +kernel
theorem dX8_boundNow_27 : decode cX8_boundNow 27 = .ok (.iconst 1, 1) := by decide +kernel
theorem dX8_boundNow_28 : decode cX8_boundNow 28 = .ok (.if_icmp .ne 10, 3) := by decide +kernel
theorem dX8_boundNow_31 : decode cX8_boundNow 31 = .ok (.aload_n 0, 1) := by decide +kernel
theorem dX8_boundNow_32 : decode cX8_boundNow 32 = .ok (.getfield 87, 3) := by decide +kernel
theorem dX8_boundNow_35 : decode cX8_boundNow 35 = .ok (.goto 8, 3) := by decide +kernel
theorem dX8_boundNow_38 : decode cX8_boundNow 38 = .ok (.aload_n 0, 1) := by decide +kernel
theorem dX8_boundNow_39 : decode cX8_boundNow 39 = .ok (.getfield 90, 3) := by decide +kernel
theorem dX8_boundNow_42 : decode cX8_boundNow 42 = .ok (.i2l, 1) := by decide +kernel
theorem dX8_boundNow_43 : decode cX8_boundNow 43 = .ok (.lreturn, 1) := by decide +kernel
theorem dX8_bound_0 : decode cX8_bound 0 = .ok (.aload_n 0, 1) := by decide +kernel
theorem dX8_bound_1 : decode cX8_bound 1 = .ok (.iload_n 1, 1) := by decide +kernel
theorem dX8_bound_2 : decode cX8_bound 2 = .ok (.iconst 0, 1) := by decide +kernel
theorem dX8_bound_3 : decode cX8_bound 3 = .ok (.iconst 2, 1) := by decide +kernel
theorem dX8_bound_4 : decode cX8_bound 4 = .ok (.invokestatic 48, 3) := by decide +kernel
theorem dX8_bound_7 : decode cX8_bound 7 = .ok (.ifCond .eq 7, 3) := by decide +kernel
theorem dX8_bound_10 : decode cX8_bound 10 = .ok (.iconst 0, 1) := by decide +kernel
theorem dX8_bound_11 : decode cX8_bound 11 = .ok (.goto 4, 3) := by decide +kernel
theorem dX8_bound_14 : decode cX8_bound 14 = .ok (.iconst 1, 1) := by decide +kernel
theorem dX8_bound_15 : decode cX8_bound 15 = .ok (.putfield 41, 3) := by decide +kernel
theorem dX8_bound_18 : decode cX8_bound 18 = .ok (.aload_n 0, 1) := by decide +kernel
theorem dX8_bound_19 : decode cX8_bound 19 = .ok (.getfield 41, 3) := by decide +kernel
theorem dX8_bound_22 : decode cX8_bound 22 = .ok (.ifCond .le 7, 3) := by decide +kernel
theorem dX8_bound_25 : decode cX8_bound 25 = .ok (.lconst 0, 1) := by decide +kernel
theorem dX8_bound_26 : decode cX8_bound 26 = .ok (.goto 8, 3) := by decide +kernel
theorem dX8_bound_29 : decode cX8_bound 29 = .ok (.aload_n 0, 1) := by decide +kernel
theorem dX8_bound_30 : decode cX8_bound 30 = .ok (.iload_n 1, 1) := by decide +kernel
theorem dX8_bound_31 : decode cX8_bound 31 = .ok (.invokevirtual 191, 3) := by decide +kernel
theorem dX8_bound_34 : decode cX8_bound 34 = .ok (.lreturn, 1) := by decide +kernel
theorem dX8_reasonNow_0 : decode cX8_reasonNow 0 = .ok (.aload_n 0, 1) := by decide +kernel
theorem dX8_reasonNow_1 : decode cX8_reasonNow 1 = .ok (.invokevirtual 76, 3) := by decide +kernel
theorem dX8_reasonNow_4 : decode cX8_reasonNow 4 = .ok (.istore_n 2, 1) := by decide +kernel
theorem dX8_reasonNow_5 : decode cX8_reasonNow 5 = .ok (.iload_n 1, 1) := by decide +kernel
theorem dX8_reasonNow_6 : decode cX8_reasonNow 6 = .ok (.ifCond .ne 8, 3) := by decide +kernel
theorem dX8_reasonNow_9 : decode cX8_reasonNow 9 = .ok (.aload_n 0, 1) := by decide +kernel
theorem dX8_reasonNow_10 : decode cX8_reasonNow 10 = .ok (.invokevirtual 186, 3) := by decide +kernel
theorem dX8_reasonNow_13 : decode cX8_reasonNow 13 = .ok (.ireturn, 1) := by decide +kernel
theorem dX8_reasonNow_14 : decode cX8_reasonNow 14 = .ok (.iload_n 2, 1) := by decide +kernel
theorem dX8_reasonNow_15 : decode cX8_reasonNow 15 = .ok (.iconst (-1), 1) := by decide +kernel
theorem dX8_reasonNow_16 : decode cX8_reasonNow 16 = .ok (.if_icmp .eq 20, 3) := by decide +kernel
theorem dX8_reasonNow_19 : decode cX8_reasonNow 19 = .ok (.iload_n 1, 1) := by decide +kernel
theorem dX8_reasonNow_20 : decode cX8_reasonNow 20 = .ok (.iconst 1, 1) := by decide +kernel
theorem dX8_reasonNow_21 : decode cX8_reasonNow 21 = .ok (.if_icmp .ne 10, 3) := by decide +kernel
theorem dX8_reasonNow_24 : decode cX8_reasonNow 24 = .ok (.iload_n 2, 1) := by decide +kernel
theorem dX8_reasonNow_25 : decode cX8_reasonNow 25 = .ok (.bipush 8, 2) := by decide +kernel
theorem dX8_reasonNow_27 : decode cX8_reasonNow 27 = .ok (.idiv, 1) := by decide +kernel
theorem dX8_reasonNow_28 : decode cX8_reasonNow 28 = .ok (.goto 7, 3) := by decide +kernel
theorem dX8_reasonNow_31 : decode cX8_reasonNow 31 = .ok (.iload_n 2, 1) := by decide +kernel
theorem dX8_reasonNow_32 : decode cX8_reasonNow 32 = .ok (.bipush 8, 2) := by decide +kernel
theorem dX8_reasonNow_34 : decode cX8_reasonNow 34 = .ok (.irem, 1) := by decide +kernel
theorem dX8_reasonNow_35 : decode cX8_reasonNow 35 = .ok (.ireturn, 1) := by decide +kernel
theorem dX8_reasonNow_36 : decode cX8_reasonNow 36 = .ok (.iload_n 1, 1) := by decide +kernel
theorem dX8_reasonNow_37 : decode cX8_reasonNow 37 = .ok (.iconst 1, 1) := by decide +kernel
theorem dX8_reasonNow_38 : decode cX8_reasonNow 38 = .ok (.if_icmp .ne 10, 3) := by decide +kernel
theorem dX8_reasonNow_41 : decode cX8_reasonNow 41 = .ok (.aload_n 0, 1) := by decide +kernel
theorem dX8_reasonNow_42 : decode cX8_reasonNow 42 = .ok (.invokevirtual 80, 3) := by decide +kernel
theorem dX8_reasonNow_45 : decode cX8_reasonNow 45 = .ok (.goto 4, 3) := by decide +kernel
theorem dX8_reasonNow_48 : decode cX8_reasonNow 48 = .ok (.iconst (-1), 1) := by decide +kernel
theorem dX8_reasonNow_49 : decode cX8_reasonNow 49 = .ok (.ireturn, 1) := by decide +kernel
theorem dX8_whyNot_0 : decode cX8_whyNot 0 = .ok (.aload_n 0, 1) := by decide +kernel
theorem dX8_whyNot_1 : decode cX8_whyNot 1 = .ok (.iload_n 1, 1) := by decide +kernel
theorem dX8_whyNot_2 : decode cX8_whyNot 2 = .ok (.iconst 0, 1) := by decide +kernel
theorem dX8_whyNot_3 : decode cX8_whyNot 3 = .ok (.iconst 2, 1) := by decide +kernel
theorem dX8_whyNot_4 : decode cX8_whyNot 4 = .ok (.invokestatic 48, 3) := by decide +kernel
theorem dX8_whyNot_7 : decode cX8_whyNot 7 = .ok (.ifCond .eq 7, 3) := by decide +kernel
theorem dX8_whyNot_10 : decode cX8_whyNot 10 = .ok (.iconst 0, 1) := by decide +kernel
theorem dX8_whyNot_11 : decode cX8_whyNot 11 = .ok (.goto 4, 3) := by decide +kernel
theorem dX8_whyNot_14 : decode cX8_whyNot 14 = .ok (.iconst 1, 1) := by decide +kernel
theorem dX8_whyNot_15 : decode cX8_whyNot 15 = .ok (.putfield 41, 3) := by decide +kernel
theorem dX8_whyNot_18 : decode cX8_whyNot 18 = .ok (.aload_n 0, 1) := by decide +kernel
theorem dX8_whyNot_19 : decode cX8_whyNot 19 = .ok (.getfield 41, 3) := by decide +kernel
theorem dX8_whyNot_22 : decode cX8_whyNot 22 = .ok (.ifCond .le 7, 3) := by decide +kernel
theorem dX8_whyNot_25 : decode cX8_whyNot 25 = .ok (.iconst 0, 1) := by decide +kernel
theorem dX8_whyNot_26 : decode cX8_whyNot 26 = .ok (.goto 8, 3) := by decide +kernel
theorem dX8_whyNot_29 : decode cX8_whyNot 29 = .ok (.aload_n 0, 1) := by decide +kernel
theorem dX8_whyNot_30 : decode cX8_whyNot 30 = .ok (.iload_n 1, 1) := by decide +kernel
theorem dX8_whyNot_31 : decode cX8_whyNot 31 = .ok (.invokevirtual 195, 3) := by decide +kernel
theorem dX8_whyNot_34 : decode cX8_whyNot 34 = .ok (.ireturn, 1) := by decide +kernel
theorem dX8_whyNotMultiply_0 : decode cX8_whyNotMultiply 0 = .ok (.aload_n 0, 1) := by decide +kernel
theorem dX8_whyNotMultiply_1 : decode cX8_whyNotMultiply 1 = .ok (.aload_n 0, 1) := by decide +kernel
theorem dX8_whyNotMultiply_2 : decode cX8_whyNotMultiply 2 = .ok (.iload_n 1, 1) := by decide +kernel
theorem dX8_whyNotMultiply_3 : decode cX8_whyNotMultiply 3 = .ok (.invokevirtual 138, 3) := by decide +kernel
theorem dX8_whyNotMultiply_6 : decode cX8_whyNotMultiply 6 = .ok (.putfield 41, 3) := by decide +kernel
theorem dX8_whyNotMultiply_9 : decode cX8_whyNotMultiply 9 = .ok (.aload_n 0, 1) := by decide +kernel
theorem dX8_whyNotMultiply_10 : decode cX8_whyNotMultiply 10 = .ok (.getfield 41, 3) := by decide +kernel
theorem dX8_whyNotMultiply_13 : decode cX8_whyNotMultiply 13 = .ok (.ifCond .le 7, 3) := by decide +kernel
theorem dX8_whyNotMultiply_16 : decode cX8_whyNotMultiply 16 = .ok (.iconst 0, 1) := by decide +kernel
theorem dX8_whyNotMultiply_17 : decode cX8_whyNotMultiply 17 = .ok (.goto 8, 3) := by decide +kernel
theorem dX8_whyNotMultiply_20 : decode cX8_whyNotMultiply 20 = .ok (.aload_n 0, 1) := by decide +kernel
theorem dX8_whyNotMultiply_21 : decode cX8_whyNotMultiply 21 = .ok (.iload_n 1, 1) := by decide +kernel
theorem dX8_whyNotMultiply_22 : decode cX8_whyNotMultiply 22 = .ok (.invokevirtual 141, 3) := by decide +kernel
theorem dX8_whyNotMultiply_25 : decode cX8_whyNotMultiply 25 = .ok (.ireturn, 1) := by decide +kernel
theorem dX8_bestNow_0 : decode cX8_bestNow 0 = .ok (.aload_n 0, 1) := by decide +kernel
theorem dX8_bestNow_1 : decode cX8_bestNow 1 = .ok (.iload_n 1, 1) := by decide +kernel
theorem dX8_bestNow_2 : decode cX8_bestNow 2 = .ok (.invokevirtual 165, 3) := by decide +kernel
theorem dX8_bestNow_5 : decode cX8_bestNow 5 = .ok (.istore_n 3, 1) := by decide +kernel
theorem dX8_bestNow_6 : decode cX8_bestNow 6 = .ok (.iload_n 2, 1) := by decide +kernel
theorem dX8_bestNow_7 : decode cX8_bestNow 7 = .ok (.iconst 2, 1) := by decide +kernel
theorem dX8_bestNow_8 : decode cX8_bestNow 8 = .ok (.if_icmp .ge 29, 3) := by decide +kernel
theorem dX8_bestNow_11 : decode cX8_bestNow 11 = .ok (.iload_n 3, 1) := by decide +kernel
theorem dX8_bestNow_12 : decode cX8_bestNow 12 = .ok (.ifCond .ne 9, 3) := by decide +kernel
theorem dX8_bestNow_15 : decode cX8_bestNow 15 = .ok (.ldc2_w 189, 3) := by decide +kernel
theorem dX8_bestNow_18 : decode cX8_bestNow 18 = .ok (.goto 18, 3) := by decide +kernel
theorem dX8_bestNow_21 : decode cX8_bestNow 21 = .ok (.iload_n 2, 1) := by decide +kernel
theorem dX8_bestNow_22 : decode cX8_bestNow 22 = .ok (.ifCond .ne 10, 3) := by decide +kernel
theorem dX8_bestNow_25 : decode cX8_bestNow 25 = .ok (.aload_n 0, 1) := by decide +kernel
theorem dX8_bestNow_26 : decode cX8_bestNow 26 = .ok (.getfield 159, 3) := by decide +kernel
theorem dX8_bestNow_29 : decode cX8_bestNow 29 = .ok (.goto 7, 3) := by decide +kernel
theorem dX8_bestNow_32 : decode cX8_bestNow 32 = .ok (.aload_n 0, 1) := by decide +kernel
theorem dX8_bestNow_33 : decode cX8_bestNow 33 = .ok (.getfield 150, 3) := by decide +kernel
theorem dX8_bestNow_36 : decode cX8_bestNow 36 = .ok (.lreturn, 1) := by decide +kernel
theorem dX8_bestNow_37 : decode cX8_bestNow 37 = .ok (.aload_n 0, 1) := by decide +kernel
theorem dX8_bestNow_38 : decode cX8_bestNow 38 = .ok (.getfield 31, 3) := by decide +kernel
theorem dX8_bestNow_41 : decode cX8_bestNow 41 = .ok (.iload_n 2, 1) := by decide +kernel
theorem dX8_bestNow_42 : decode cX8_bestNow 42 = .ok (.bipush 10, 2) := by decide +kernel
theorem dX8_bestNow_44 : decode cX8_bestNow 44 = .ok (.isub, 1) := by decide +kernel
theorem dX8_bestNow_45 : decode cX8_bestNow 45 = .ok (.iaload, 1) := by decide +kernel
theorem dX8_bestNow_46 : decode cX8_bestNow 46 = .ok (.i2l, 1) := by decide +kernel
theorem dX8_bestNow_47 : decode cX8_bestNow 47 = .ok (.lreturn, 1) := by decide +kernel
theorem dX8_bestHandle_0 : decode cX8_bestHandle 0 = .ok (.aload_n 0, 1) := by decide +kernel
theorem dX8_bestHandle_1 : decode cX8_bestHandle 1 = .ok (.iload_n 1, 1) := by decide +kernel
theorem dX8_bestHandle_2 : decode cX8_bestHandle 2 = .ok (.invokestatic 162, 3) := by decide +kernel
theorem dX8_bestHandle_5 : decode cX8_bestHandle 5 = .ok (.ifCond .eq 27, 3) := by decide +kernel
theorem dX8_bestHandle_8 : decode cX8_bestHandle 8 = .ok (.iload_n 2, 1) := by decide +kernel
theorem dX8_bestHandle_9 : decode cX8_bestHandle 9 = .ok (.iconst 0, 1) := by decide +kernel
theorem dX8_bestHandle_10 : decode cX8_bestHandle 10 = .ok (.iconst 1, 1) := by decide +kernel
theorem dX8_bestHandle_11 : decode cX8_bestHandle 11 = .ok (.invokestatic 48, 3) := by decide +kernel
theorem dX8_bestHandle_14 : decode cX8_bestHandle 14 = .ok (.ifCond .ne 14, 3) := by decide +kernel
theorem dX8_bestHandle_17 : decode cX8_bestHandle 17 = .ok (.iload_n 2, 1) := by decide +kernel
theorem dX8_bestHandle_18 : decode cX8_bestHandle 18 = .ok (.bipush 10, 2) := by decide +kernel
theorem dX8_bestHandle_20 : decode cX8_bestHandle 20 = .ok (.bipush 13, 2) := by decide +kernel
theorem dX8_bestHandle_22 : decode cX8_bestHandle 22 = .ok (.invokestatic 48, 3) := by decide +kernel
theorem dX8_bestHandle_25 : decode cX8_bestHandle 25 = .ok (.ifCond .eq 7, 3) := by decide +kernel
theorem dX8_bestHandle_28 : decode cX8_bestHandle 28 = .ok (.iconst 0, 1) := by decide +kernel
theorem dX8_bestHandle_29 : decode cX8_bestHandle 29 = .ok (.goto 4, 3) := by decide +kernel
theorem dX8_bestHandle_32 : decode cX8_bestHandle 32 = .ok (.iconst 1, 1) := by decide +kernel
theorem dX8_bestHandle_33 : decode cX8_bestHandle 33 = .ok (.putfield 41, 3) := by decide +kernel
theorem dX8_bestHandle_36 : decode cX8_bestHandle 36 = .ok (.aload_n 0, 1) := by decide +kernel
theorem dX8_bestHandle_37 : decode cX8_bestHandle 37 = .ok (.getfield 41, 3) := by decide +kernel
theorem dX8_bestHandle_40 : decode cX8_bestHandle 40 = .ok (.ifCond .le 7, 3) := by decide +kernel
theorem dX8_bestHandle_43 : decode cX8_bestHandle 43 = .ok (.lconst 0, 1) := by decide +kernel
theorem dX8_bestHandle_44 : decode cX8_bestHandle 44 = .ok (.goto 9, 3) := by decide +kernel
theorem dX8_bestHandle_47 : decode cX8_bestHandle 47 = .ok (.aload_n 0, 1) := by decide +kernel
theorem dX8_bestHandle_48 : decode cX8_bestHandle 48 = .ok (.iload_n 1, 1) := by decide +kernel
theorem dX8_bestHandle_49 : decode cX8_bestHandle 49 = .ok (.iload_n 2, 1) := by decide +kernel
theorem dX8_bestHandle_50 : decode cX8_bestHandle 50 = .ok (.invokevirtual 198, 3) := by decide +kernel
theorem dX8_bestHandle_53 : decode cX8_bestHandle 53 = .ok (.lreturn, 1) := by decide +kernel
theorem dX8_counted_0 : decode cX8_counted 0 = .ok (.iload_n 1, 1) := by decide +kernel
theorem dX8_counted_1 : decode cX8_counted 1 = .ok (.tableswitch 133 0 10 #[59, 59, 66, 71, 81, 87, 92, 97, 102, 111, 119], 59) := by decide +kernel
theorem dX8_counted_60 : decode cX8_counted 60 = .ok (.aload_n 0, 1) := by decide +kernel
theorem dX8_counted_61 : decode cX8_counted 61 = .ok (.getfield 7, 3) := by decide +kernel
theorem dX8_counted_64 : decode cX8_counted 64 = .ok (.iload_n 1, 1) := by decide +kernel
theorem dX8_counted_65 : decode cX8_counted 65 = .ok (.iaload, 1) := by decide +kernel
theorem dX8_counted_66 : decode cX8_counted 66 = .ok (.ireturn, 1) := by decide +kernel
theorem dX8_counted_67 : decode cX8_counted 67 = .ok (.aload_n 0, 1) := by decide +kernel
theorem dX8_counted_68 : decode cX8_counted 68 = .ok (.invokevirtual 120, 3) := by decide +kernel
theorem dX8_counted_71 : decode cX8_counted 71 = .ok (.ireturn, 1) := by decide +kernel
theorem dX8_counted_72 : decode cX8_counted 72 = .ok (.aload_n 0, 1) := by decide +kernel
theorem dX8_counted_73 : decode cX8_counted 73 = .ok (.aload_n 0, 1) := by decide +kernel
theorem dX8_counted_74 : decode cX8_counted 74 = .ok (.iconst 0, 1) := by decide +kernel
theorem dX8_counted_75 : decode cX8_counted 75 = .ok (.invokevirtual 180, 3) := by decide +kernel
theorem dX8_counted_78 : decode cX8_counted 78 = .ok (.invokevirtual 101, 3) := by decide +kernel
theorem dX8_counted_81 : decode cX8_counted 81 = .ok (.ireturn, 1) := by decide +kernel
theorem dX8_counted_82 : decode cX8_counted 82 = .ok (.aload_n 0, 1) := by decide +kernel
theorem dX8_counted_83 : decode cX8_counted 83 = .ok (.iconst 0, 1) := by decide +kernel
theorem dX8_counted_84 : decode cX8_counted 84 = .ok (.invokevirtual 180, 3) := by decide +kernel
theorem dX8_counted_87 : decode cX8_counted 87 = .ok (.ireturn, 1) := by decide +kernel
theorem dX8_counted_88 : decode cX8_counted 88 = .ok (.aload_n 0, 1) := by decide +kernel
theorem dX8_counted_89 : decode cX8_counted 89 = .ok (.invokevirtual 202, 3) := by decide +kernel
theorem dX8_counted_92 : decode cX8_counted 92 = .ok (.ireturn, 1) := by decide +kernel
theorem dX8_counted_93 : decode cX8_counted 93 = .ok (.aload_n 0, 1) := by decide +kernel
theorem dX8_counted_94 : decode cX8_counted 94 = .ok (.invokevirtual 147, 3) := by decide +kernel
theorem dX8_counted_97 : decode cX8_counted 97 = .ok (.ireturn, 1) := by decide +kernel
theorem dX8_counted_98 : decode cX8_counted 98 = .ok (.aload_n 0, 1) := by decide +kernel
theorem dX8_counted_99 : decode cX8_counted 99 = .ok (.invokevirtual 205, 3) := by decide +kernel
theorem dX8_counted_102 : decode cX8_counted 102 = .ok (.ireturn, 1) := by decide +kernel
theorem dX8_counted_103 : decode cX8_counted 103 = .ok (.aload_n 0, 1) := by decide +kernel
theorem dX8_counted_104 : decode cX8_counted 104 = .ok (.bipush 50, 2) := by decide +kernel
theorem dX8_counted_106 : decode cX8_counted 106 = .ok (.bipush 50, 2) := by decide +kernel
theorem dX8_counted_108 : decode cX8_counted 108 = .ok (.invokevirtual 60, 3) := by decide +kernel
theorem dX8_counted_111 : decode cX8_counted 111 = .ok (.ireturn, 1) := by decide +kernel
theorem dX8_counted_112 : decode cX8_counted 112 = .ok (.aload_n 0, 1) := by decide +kernel
theorem dX8_counted_113 : decode cX8_counted 113 = .ok (.getfield 7, 3) := by decide +kernel
theorem dX8_counted_116 : decode cX8_counted 116 = .ok (.bipush 54, 2) := by decide +kernel
theorem dX8_counted_118 : decode cX8_counted 118 = .ok (.iaload, 1) := by decide +kernel
theorem dX8_counted_119 : decode cX8_counted 119 = .ok (.ireturn, 1) := by decide +kernel
theorem dX8_counted_120 : decode cX8_counted 120 = .ok (.aload_n 0, 1) := by decide +kernel
theorem dX8_counted_121 : decode cX8_counted 121 = .ok (.getfield 19, 3) := by decide +kernel
theorem dX8_counted_124 : decode cX8_counted 124 = .ok (.iconst 0, 1) := by decide +kernel
theorem dX8_counted_125 : decode cX8_counted 125 = .ok (.iaload, 1) := by decide +kernel
theorem dX8_counted_126 : decode cX8_counted 126 = .ok (.aload_n 0, 1) := by decide +kernel
theorem dX8_counted_127 : decode cX8_counted 127 = .ok (.getfield 19, 3) := by decide +kernel
theorem dX8_counted_130 : decode cX8_counted 130 = .ok (.iconst 1, 1) := by decide +kernel
theorem dX8_counted_131 : decode cX8_counted 131 = .ok (.iaload, 1) := by decide +kernel
theorem dX8_counted_132 : decode cX8_counted 132 = .ok (.iadd, 1) := by decide +kernel
theorem dX8_counted_133 : decode cX8_counted 133 = .ok (.ireturn, 1) := by decide +kernel
theorem dX8_counted_134 : decode cX8_counted 134 = .ok (.aload_n 0, 1) := by decide +kernel
theorem dX8_counted_135 : decode cX8_counted 135 = .ok (.getfield 45, 3) := by decide +kernel
theorem dX8_counted_138 : decode cX8_counted 138 = .ok (.ireturn, 1) := by decide +kernel
theorem dX8_count_0 : decode cX8_count 0 = .ok (.aload_n 0, 1) := by decide +kernel
theorem dX8_count_1 : decode cX8_count 1 = .ok (.iload_n 1, 1) := by decide +kernel
theorem dX8_count_2 : decode cX8_count 2 = .ok (.iconst 0, 1) := by decide +kernel
theorem dX8_count_3 : decode cX8_count 3 = .ok (.bipush 11, 2) := by decide +kernel
theorem dX8_count_5 : decode cX8_count 5 = .ok (.invokestatic 48, 3) := by decide +kernel
theorem dX8_count_8 : decode cX8_count 8 = .ok (.ifCond .eq 7, 3) := by decide +kernel
theorem dX8_count_11 : decode cX8_count 11 = .ok (.iconst 0, 1) := by decide +kernel
theorem dX8_count_12 : decode cX8_count 12 = .ok (.goto 4, 3) := by decide +kernel
theorem dX8_count_15 : decode cX8_count 15 = .ok (.iconst 1, 1) := by decide +kernel
theorem dX8_count_16 : decode cX8_count 16 = .ok (.putfield 41, 3) := by decide +kernel
theorem dX8_count_19 : decode cX8_count 19 = .ok (.aload_n 0, 1) := by decide +kernel
theorem dX8_count_20 : decode cX8_count 20 = .ok (.getfield 41, 3) := by decide +kernel
theorem dX8_count_23 : decode cX8_count 23 = .ok (.ifCond .le 7, 3) := by decide +kernel
theorem dX8_count_26 : decode cX8_count 26 = .ok (.iconst 0, 1) := by decide +kernel
theorem dX8_count_27 : decode cX8_count 27 = .ok (.goto 8, 3) := by decide +kernel
theorem dX8_count_30 : decode cX8_count 30 = .ok (.aload_n 0, 1) := by decide +kernel
theorem dX8_count_31 : decode cX8_count 31 = .ok (.iload_n 1, 1) := by decide +kernel
theorem dX8_count_32 : decode cX8_count 32 = .ok (.invokevirtual 208, 3) := by decide +kernel
theorem dX8_count_35 : decode cX8_count 35 = .ok (.ireturn, 1) := by decide +kernel
theorem dX8_near_0 : decode cX8_near 0 = .ok (.aload_n 0, 1) := by decide +kernel
theorem dX8_near_1 : decode cX8_near 1 = .ok (.invokevirtual 186, 3) := by decide +kernel
theorem dX8_near_4 : decode cX8_near 4 = .ok (.ifCond .le 5, 3) := by decide +kernel
theorem dX8_near_7 : decode cX8_near 7 = .ok (.dconst 0, 1) := by decide +kernel
theorem dX8_near_8 : decode cX8_near 8 = .ok (.dreturn, 1) := by decide +kernel
theorem dX8_near_9 : decode cX8_near 9 = .ok (.aload_n 0, 1) := by decide +kernel
theorem dX8_near_10 : decode cX8_near 10 = .ok (.invokevirtual 156, 3) := by decide +kernel
theorem dX8_near_13 : decode cX8_near 13 = .ok (.aload_n 0, 1) := by decide +kernel
theorem dX8_near_14 : decode cX8_near 14 = .ok (.getfield 83, 3) := by decide +kernel
theorem dX8_near_17 : decode cX8_near 17 = .ok (.lconst 0, 1) := by decide +kernel
theorem dX8_near_18 : decode cX8_near 18 = .ok (.lcmp, 1) := by decide +kernel
theorem dX8_near_19 : decode cX8_near 19 = .ok (.ifCond .ne 7, 3) := by decide +kernel
theorem dX8_near_22 : decode cX8_near 22 = .ok (.dconst 0, 1) := by decide +kernel
theorem dX8_near_23 : decode cX8_near 23 = .ok (.goto 25, 3) := by decide +kernel
theorem dX8_near_26 : decode cX8_near 26 = .ok (.aload_n 0, 1) := by decide +kernel
theorem dX8_near_27 : decode cX8_near 27 = .ok (.aload_n 0, 1) := by decide +kernel
theorem dX8_near_28 : decode cX8_near 28 = .ok (.iconst 0, 1) := by decide +kernel
theorem dX8_near_29 : decode cX8_near 29 = .ok (.invokevirtual 180, 3) := by decide +kernel
theorem dX8_near_32 : decode cX8_near 32 = .ok (.invokevirtual 101, 3) := by decide +kernel
theorem dX8_near_35 : decode cX8_near 35 = .ok (.i2d, 1) := by decide +kernel
theorem dX8_near_36 : decode cX8_near 36 = .ok (.aload_n 0, 1) := by decide +kernel
theorem dX8_near_37 : decode cX8_near 37 = .ok (.getfield 87, 3) := by decide +kernel
theorem dX8_near_40 : decode cX8_near 40 = .ok (.l2d, 1) := by decide +kernel
theorem dX8_near_41 : decode cX8_near 41 = .ok (.dmul, 1) := by decide +kernel
theorem dX8_near_42 : decode cX8_near 42 = .ok (.aload_n 0, 1) := by decide +kernel
theorem dX8_near_43 : decode cX8_near 43 = .ok (.getfield 83, 3) := by decide +kernel
theorem dX8_near_46 : decode cX8_near 46 = .ok (.l2d, 1) := by decide +kernel
theorem dX8_near_47 : decode cX8_near 47 = .ok (.ddiv, 1) := by decide +kernel
theorem dX8_near_48 : decode cX8_near 48 = .ok (.dreturn, 1) := by decide +kernel
theorem dX8_nearness_0 : decode cX8_nearness 0 = .ok (.aload_n 0, 1) := by decide +kernel
theorem dX8_nearness_1 : decode cX8_nearness 1 = .ok (.iconst 0, 1) := by decide +kernel
theorem dX8_nearness_2 : decode cX8_nearness 2 = .ok (.putfield 41, 3) := by decide +kernel
theorem dX8_nearness_5 : decode cX8_nearness 5 = .ok (.aload_n 0, 1) := by decide +kernel
theorem dX8_nearness_6 : decode cX8_nearness 6 = .ok (.invokevirtual 211, 3) := by decide +kernel
theorem dX8_nearness_9 : decode cX8_nearness 9 = .ok (.dreturn, 1) := by decide +kernel
theorem dX8_mix_0 : decode cX8_mix 0 = .ok (.aload_n 0, 1) := by decide +kernel
theorem dX8_mix_1 : decode cX8_mix 1 = .ok (.ldc2_w 215, 3) := by decide +kernel
theorem dX8_mix_4 : decode cX8_mix 4 = .ok (.aload_n 0, 1) := by decide +kernel
theorem dX8_mix_5 : decode cX8_mix 5 = .ok (.getfield 217, 3) := by decide +kernel
theorem dX8_mix_8 : decode cX8_mix 8 = .ok (.lmul, 1) := by decide +kernel
theorem dX8_mix_9 : decode cX8_mix 9 = .ok (.lload_n 1, 1) := by decide +kernel
theorem dX8_mix_10 : decode cX8_mix 10 = .ok (.ladd, 1) := by decide +kernel
theorem dX8_mix_11 : decode cX8_mix 11 = .ok (.putfield 217, 3) := by decide +kernel
theorem dX8_mix_14 : decode cX8_mix 14 = .ok (.return_, 1) := by decide +kernel
theorem dX8_mixVertex_0 : decode cX8_mixVertex 0 = .ok (.iconst 0, 1) := by decide +kernel
theorem dX8_mixVertex_1 : decode cX8_mixVertex 1 = .ok (.istore_n 2, 1) := by decide +kernel
theorem dX8_mixVertex_2 : decode cX8_mixVertex 2 = .ok (.iload_n 2, 1) := by decide +kernel
theorem dX8_mixVertex_3 : decode cX8_mixVertex 3 = .ok (.bipush 14, 2) := by decide +kernel
theorem dX8_mixVertex_5 : decode cX8_mixVertex 5 = .ok (.if_icmp .ge 32, 3) := by decide +kernel
theorem dX8_mixVertex_8 : decode cX8_mixVertex 8 = .ok (.iload_n 2, 1) := by decide +kernel
theorem dX8_mixVertex_9 : decode cX8_mixVertex 9 = .ok (.bipush 6, 2) := by decide +kernel
theorem dX8_mixVertex_11 : decode cX8_mixVertex 11 = .ok (.if_icmp .lt 9, 3) := by decide +kernel
theorem dX8_mixVertex_14 : decode cX8_mixVertex 14 = .ok (.iload_n 2, 1) := by decide +kernel
theorem dX8_mixVertex_15 : decode cX8_mixVertex 15 = .ok (.bipush 9, 2) := by decide +kernel
theorem dX8_mixVertex_17 : decode cX8_mixVertex 17 = .ok (.if_icmp .le 14, 3) := by decide +kernel
theorem dX8_mixVertex_20 : decode cX8_mixVertex 20 = .ok (.aload_n 0, 1) := by decide +kernel
theorem dX8_mixVertex_21 : decode cX8_mixVertex 21 = .ok (.aload_n 0, 1) := by decide +kernel
theorem dX8_mixVertex_22 : decode cX8_mixVertex 22 = .ok (.iload_n 1, 1) := by decide +kernel
theorem dX8_mixVertex_23 : decode cX8_mixVertex 23 = .ok (.iload_n 2, 1) := by decide +kernel
theorem dX8_mixVertex_24 : decode cX8_mixVertex 24 = .ok (.invokevirtual 183, 3) := by decide +kernel
theorem dX8_mixVertex_27 : decode cX8_mixVertex 27 = .ok (.i2l, 1) := by decide +kernel
theorem dX8_mixVertex_28 : decode cX8_mixVertex 28 = .ok (.invokevirtual 220, 3) := by decide +kernel
theorem dX8_mixVertex_31 : decode cX8_mixVertex 31 = .ok (.iinc 2 1, 3) := by decide +kernel
theorem dX8_mixVertex_34 : decode cX8_mixVertex 34 = .ok (.goto (-32), 3) := by decide +kernel
theorem dX8_mixVertex_37 : decode cX8_mixVertex 37 = .ok (.iconst 0, 1) := by decide +kernel
theorem dX8_mixVertex_38 : decode cX8_mixVertex 38 = .ok (.istore_n 2, 1) := by decide +kernel
theorem dX8_mixVertex_39 : decode cX8_mixVertex 39 = .ok (.iload_n 2, 1) := by decide +kernel
theorem dX8_mixVertex_40 : decode cX8_mixVertex 40 = .ok (.aload_n 0, 1) := by decide +kernel
theorem dX8_mixVertex_41 : decode cX8_mixVertex 41 = .ok (.getfield 7, 3) := by decide +kernel
theorem dX8_mixVertex_44 : decode cX8_mixVertex 44 = .ok (.iconst 0, 1) := by decide +kernel
theorem dX8_mixVertex_45 : decode cX8_mixVertex 45 = .ok (.iaload, 1) := by decide +kernel
theorem dX8_mixVertex_46 : decode cX8_mixVertex 46 = .ok (.if_icmp .ge 27, 3) := by decide +kernel
theorem dX8_mixVertex_49 : decode cX8_mixVertex 49 = .ok (.aload_n 0, 1) := by decide +kernel
theorem dX8_mixVertex_50 : decode cX8_mixVertex 50 = .ok (.aload_n 0, 1) := by decide +kernel
theorem dX8_mixVertex_51 : decode cX8_mixVertex 51 = .ok (.iload_n 1, 1) := by decide +kernel
theorem dX8_mixVertex_52 : decode cX8_mixVertex 52 = .ok (.iload_n 2, 1) := by decide +kernel
theorem dX8_mixVertex_53 : decode cX8_mixVertex 53 = .ok (.invokevirtual 67, 3) := by decide +kernel
theorem dX8_mixVertex_56 : decode cX8_mixVertex 56 = .ok (.ifCond .eq 7, 3) := by decide +kernel
theorem dX8_mixVertex_59 : decode cX8_mixVertex 59 = .ok (.lconst 1, 1) := by decide +kernel
theorem dX8_mixVertex_60 : decode cX8_mixVertex 60 = .ok (.goto 4, 3) := by decide +kernel
theorem dX8_mixVertex_63 : decode cX8_mixVertex 63 = .ok (.lconst 0, 1) := by decide +kernel
theorem dX8_mixVertex_64 : decode cX8_mixVertex 64 = .ok (.invokevirtual 220, 3) := by decide +kernel
theorem dX8_mixVertex_67 : decode cX8_mixVertex 67 = .ok (.iinc 2 1, 3) := by decide +kernel
theorem dX8_mixVertex_70 : decode cX8_mixVertex 70 = .ok (.goto (-31), 3) := by decide +kernel
theorem dX8_mixVertex_73 : decode cX8_mixVertex 73 = .ok (.return_, 1) := by decide +kernel
theorem dX8_digest_0 : decode cX8_digest 0 = .ok (.aload_n 0, 1) := by decide +kernel
theorem dX8_digest_1 : decode cX8_digest 1 = .ok (.iconst 0, 1) := by decide +kernel
theorem dX8_digest_2 : decode cX8_digest 2 = .ok (.putfield 41, 3) := by decide +kernel
theorem dX8_digest_5 : decode cX8_digest 5 = .ok (.aload_n 0, 1) := by decide +kernel
theorem dX8_digest_6 : decode cX8_digest 6 = .ok (.ldc2_w 224, 3) := by decide +kernel
theorem dX8_digest_9 : decode cX8_digest 9 = .ok (.putfield 217, 3) := by decide +kernel
theorem dX8_digest_12 : decode cX8_digest 12 = .ok (.iconst 0, 1) := by decide +kernel
theorem dX8_digest_13 : decode cX8_digest 13 = .ok (.istore_n 1, 1) := by decide +kernel
theorem dX8_digest_14 : decode cX8_digest 14 = .ok (.iload_n 1, 1) := by decide +kernel
theorem dX8_digest_15 : decode cX8_digest 15 = .ok (.bipush 12, 2) := by decide +kernel
theorem dX8_digest_17 : decode cX8_digest 17 = .ok (.if_icmp .ge 19, 3) := by decide +kernel
theorem dX8_digest_20 : decode cX8_digest 20 = .ok (.aload_n 0, 1) := by decide +kernel
theorem dX8_digest_21 : decode cX8_digest 21 = .ok (.aload_n 0, 1) := by decide +kernel
theorem dX8_digest_22 : decode cX8_digest 22 = .ok (.iload_n 1, 1) := by decide +kernel
theorem dX8_digest_23 : decode cX8_digest 23 = .ok (.invokevirtual 208, 3) := by decide +kernel
theorem dX8_digest_26 : decode cX8_digest 26 = .ok (.i2l, 1) := by decide +kernel
theorem dX8_digest_27 : decode cX8_digest 27 = .ok (.invokevirtual 220, 3) := by decide +kernel
theorem dX8_digest_30 : decode cX8_digest 30 = .ok (.iinc 1 1, 3) := by decide +kernel
theorem dX8_digest_33 : decode cX8_digest 33 = .ok (.goto (-19), 3) := by decide +kernel
theorem dX8_digest_36 : decode cX8_digest 36 = .ok (.iconst 0, 1) := by decide +kernel
theorem dX8_digest_37 : decode cX8_digest 37 = .ok (.istore_n 1, 1) := by decide +kernel
theorem dX8_digest_38 : decode cX8_digest 38 = .ok (.iload_n 1, 1) := by decide +kernel
theorem dX8_digest_39 : decode cX8_digest 39 = .ok (.aload_n 0, 1) := by decide +kernel
theorem dX8_digest_40 : decode cX8_digest 40 = .ok (.getfield 7, 3) := by decide +kernel
theorem dX8_digest_43 : decode cX8_digest 43 = .ok (.iconst 0, 1) := by decide +kernel
theorem dX8_digest_44 : decode cX8_digest 44 = .ok (.iaload, 1) := by decide +kernel
theorem dX8_digest_45 : decode cX8_digest 45 = .ok (.if_icmp .ge 14, 3) := by decide +kernel
theorem dX8_digest_48 : decode cX8_digest 48 = .ok (.aload_n 0, 1) := by decide +kernel
theorem dX8_digest_49 : decode cX8_digest 49 = .ok (.iload_n 1, 1) := by decide +kernel
theorem dX8_digest_50 : decode cX8_digest 50 = .ok (.invokevirtual 226, 3) := by decide +kernel
theorem dX8_digest_53 : decode cX8_digest 53 = .ok (.iinc 1 1, 3) := by decide +kernel
theorem dX8_digest_56 : decode cX8_digest 56 = .ok (.goto (-18), 3) := by decide +kernel
theorem dX8_digest_59 : decode cX8_digest 59 = .ok (.iconst 0, 1) := by decide +kernel
theorem dX8_digest_60 : decode cX8_digest 60 = .ok (.istore_n 1, 1) := by decide +kernel
theorem dX8_digest_61 : decode cX8_digest 61 = .ok (.iload_n 1, 1) := by decide +kernel
theorem dX8_digest_62 : decode cX8_digest 62 = .ok (.aload_n 0, 1) := by decide +kernel
theorem dX8_digest_63 : decode cX8_digest 63 = .ok (.getfield 7, 3) := by decide +kernel
theorem dX8_digest_66 : decode cX8_digest 66 = .ok (.iconst 1, 1) := by decide +kernel
theorem dX8_digest_67 : decode cX8_digest 67 = .ok (.iaload, 1) := by decide +kernel
theorem dX8_digest_68 : decode cX8_digest 68 = .ok (.if_icmp .ge 23, 3) := by decide +kernel
theorem dX8_digest_71 : decode cX8_digest 71 = .ok (.aload_n 0, 1) := by decide +kernel
theorem dX8_digest_72 : decode cX8_digest 72 = .ok (.aload_n 0, 1) := by decide +kernel
theorem dX8_digest_73 : decode cX8_digest 73 = .ok (.getfield 7, 3) := by decide +kernel
theorem dX8_digest_76 : decode cX8_digest 76 = .ok (.bipush 50, 2) := by decide +kernel
theorem dX8_digest_78 : decode cX8_digest 78 = .ok (.iload_n 1, 1) := by decide +kernel
theorem dX8_digest_79 : decode cX8_digest 79 = .ok (.iadd, 1) := by decide +kernel
theorem dX8_digest_80 : decode cX8_digest 80 = .ok (.iaload, 1) := by decide +kernel
theorem dX8_digest_81 : decode cX8_digest 81 = .ok (.i2l, 1) := by decide +kernel
theorem dX8_digest_82 : decode cX8_digest 82 = .ok (.invokevirtual 220, 3) := by decide +kernel
theorem dX8_digest_85 : decode cX8_digest 85 = .ok (.iinc 1 1, 3) := by decide +kernel
theorem dX8_digest_88 : decode cX8_digest 88 = .ok (.goto (-27), 3) := by decide +kernel
theorem dX8_digest_91 : decode cX8_digest 91 = .ok (.iconst 0, 1) := by decide +kernel
theorem dX8_digest_92 : decode cX8_digest 92 = .ok (.istore_n 1, 1) := by decide +kernel
theorem dX8_digest_93 : decode cX8_digest 93 = .ok (.iload_n 1, 1) := by decide +kernel
theorem dX8_digest_94 : decode cX8_digest 94 = .ok (.iconst 3, 1) := by decide +kernel
theorem dX8_digest_95 : decode cX8_digest 95 = .ok (.if_icmp .ge 18, 3) := by decide +kernel
theorem dX8_digest_98 : decode cX8_digest 98 = .ok (.aload_n 0, 1) := by decide +kernel
theorem dX8_digest_99 : decode cX8_digest 99 = .ok (.aload_n 0, 1) := by decide +kernel
theorem dX8_digest_100 : decode cX8_digest 100 = .ok (.iload_n 1, 1) := by decide +kernel
theorem dX8_digest_101 : decode cX8_digest 101 = .ok (.invokevirtual 191, 3) := by decide +kernel
theorem dX8_digest_104 : decode cX8_digest 104 = .ok (.invokevirtual 220, 3) := by decide +kernel
theorem dX8_digest_107 : decode cX8_digest 107 = .ok (.iinc 1 1, 3) := by decide +kernel
theorem dX8_digest_110 : decode cX8_digest 110 = .ok (.goto (-17), 3) := by decide +kernel
theorem dX8_digest_113 : decode cX8_digest 113 = .ok (.iconst 0, 1) := by decide +kernel
theorem dX8_digest_114 : decode cX8_digest 114 = .ok (.istore_n 1, 1) := by decide +kernel
theorem dX8_digest_115 : decode cX8_digest 115 = .ok (.iload_n 1, 1) := by decide +kernel
theorem dX8_digest_116 : decode cX8_digest 116 = .ok (.iconst 3, 1) := by decide +kernel
theorem dX8_digest_117 : decode cX8_digest 117 = .ok (.if_icmp .ge 19, 3) := by decide +kernel
theorem dX8_digest_120 : decode cX8_digest 120 = .ok (.aload_n 0, 1) := by decide +kernel
theorem dX8_digest_121 : decode cX8_digest 121 = .ok (.aload_n 0, 1) := by decide +kernel
theorem dX8_digest_122 : decode cX8_digest 122 = .ok (.iload_n 1, 1) := by decide +kernel
theorem dX8_digest_123 : decode cX8_digest 123 = .ok (.invokevirtual 195, 3) := by decide +kernel
theorem dX8_digest_126 : decode cX8_digest 126 = .ok (.i2l, 1) := by decide +kernel
theorem dX8_digest_127 : decode cX8_digest 127 = .ok (.invokevirtual 220, 3) := by decide +kernel
theorem dX8_digest_130 : decode cX8_digest 130 = .ok (.iinc 1 1, 3) := by decide +kernel
theorem dX8_digest_133 : decode cX8_digest 133 = .ok (.goto (-18), 3) := by decide +kernel
theorem dX8_digest_136 : decode cX8_digest 136 = .ok (.iconst 0, 1) := by decide +kernel
theorem dX8_digest_137 : decode cX8_digest 137 = .ok (.istore_n 1, 1) := by decide +kernel
theorem dX8_digest_138 : decode cX8_digest 138 = .ok (.iload_n 1, 1) := by decide +kernel
theorem dX8_digest_139 : decode cX8_digest 139 = .ok (.bipush 14, 2) := by decide +kernel
theorem dX8_digest_141 : decode cX8_digest 141 = .ok (.if_icmp .ge 30, 3) := by decide +kernel
theorem dX8_digest_144 : decode cX8_digest 144 = .ok (.iload_n 1, 1) := by decide +kernel
theorem dX8_digest_145 : decode cX8_digest 145 = .ok (.iconst 2, 1) := by decide +kernel
theorem dX8_digest_146 : decode cX8_digest 146 = .ok (.if_icmp .lt 9, 3) := by decide +kernel
theorem dX8_digest_149 : decode cX8_digest 149 = .ok (.iload_n 1, 1) := by decide +kernel
theorem dX8_digest_150 : decode cX8_digest 150 = .ok (.bipush 9, 2) := by decide +kernel
theorem dX8_digest_152 : decode cX8_digest 152 = .ok (.if_icmp .le 13, 3) := by decide +kernel
theorem dX8_digest_155 : decode cX8_digest 155 = .ok (.aload_n 0, 1) := by decide +kernel
theorem dX8_digest_156 : decode cX8_digest 156 = .ok (.aload_n 0, 1) := by decide +kernel
theorem dX8_digest_157 : decode cX8_digest 157 = .ok (.iconst 1, 1) := by decide +kernel
theorem dX8_digest_158 : decode cX8_digest 158 = .ok (.iload_n 1, 1) := by decide +kernel
theorem dX8_digest_159 : decode cX8_digest 159 = .ok (.invokevirtual 198, 3) := by decide +kernel
theorem dX8_digest_162 : decode cX8_digest 162 = .ok (.invokevirtual 220, 3) := by decide +kernel
theorem dX8_digest_165 : decode cX8_digest 165 = .ok (.iinc 1 1, 3) := by decide +kernel
theorem dX8_digest_168 : decode cX8_digest 168 = .ok (.goto (-30), 3) := by decide +kernel
theorem dX8_digest_171 : decode cX8_digest 171 = .ok (.aload_n 0, 1) := by decide +kernel
theorem dX8_digest_172 : decode cX8_digest 172 = .ok (.aload_n 0, 1) := by decide +kernel
theorem dX8_digest_173 : decode cX8_digest 173 = .ok (.invokevirtual 211, 3) := by decide +kernel
theorem dX8_digest_176 : decode cX8_digest 176 = .ok (.invokestatic 230, 3) := by decide +kernel
theorem dX8_digest_179 : decode cX8_digest 179 = .ok (.invokevirtual 220, 3) := by decide +kernel
theorem dX8_digest_182 : decode cX8_digest 182 = .ok (.aload_n 0, 1) := by decide +kernel
theorem dX8_digest_183 : decode cX8_digest 183 = .ok (.aload_n 0, 1) := by decide +kernel
theorem dX8_digest_184 : decode cX8_digest 184 = .ok (.getfield 168, 3) := by decide +kernel
theorem dX8_digest_187 : decode cX8_digest 187 = .ok (.i2l, 1) := by decide +kernel
theorem dX8_digest_188 : decode cX8_digest 188 = .ok (.invokevirtual 220, 3) := by decide +kernel
theorem dX8_digest_191 : decode cX8_digest 191 = .ok (.iconst 0, 1) := by decide +kernel
theorem dX8_digest_192 : decode cX8_digest 192 = .ok (.istore_n 1, 1) := by decide +kernel
theorem dX8_digest_193 : decode cX8_digest 193 = .ok (.iload_n 1, 1) := by decide +kernel
theorem dX8_digest_194 : decode cX8_digest 194 = .ok (.aload_n 0, 1) := by decide +kernel
theorem dX8_digest_195 : decode cX8_digest 195 = .ok (.getfield 168, 3) := by decide +kernel
theorem dX8_digest_198 : decode cX8_digest 198 = .ok (.if_icmp .ge 20, 3) := by decide +kernel
theorem dX8_digest_201 : decode cX8_digest 201 = .ok (.aload_n 0, 1) := by decide +kernel
theorem dX8_digest_202 : decode cX8_digest 202 = .ok (.aload_n 0, 1) := by decide +kernel
theorem dX8_digest_203 : decode cX8_digest 203 = .ok (.getfield 22, 3) := by decide +kernel
theorem dX8_digest_206 : decode cX8_digest 206 = .ok (.iload_n 1, 1) := by decide +kernel
theorem dX8_digest_207 : decode cX8_digest 207 = .ok (.iaload, 1) := by decide +kernel
theorem dX8_digest_208 : decode cX8_digest 208 = .ok (.i2l, 1) := by decide +kernel
theorem dX8_digest_209 : decode cX8_digest 209 = .ok (.invokevirtual 220, 3) := by decide +kernel
theorem dX8_digest_212 : decode cX8_digest 212 = .ok (.iinc 1 1, 3) := by decide +kernel
theorem dX8_digest_215 : decode cX8_digest 215 = .ok (.goto (-22), 3) := by decide +kernel
theorem dX8_digest_218 : decode cX8_digest 218 = .ok (.aload_n 0, 1) := by decide +kernel
theorem dX8_digest_219 : decode cX8_digest 219 = .ok (.getfield 217, 3) := by decide +kernel
theorem dX8_digest_222 : decode cX8_digest 222 = .ok (.lreturn, 1) := by decide +kernel
theorem dJxe99ae_isNaN_b9ae7_0 : decode cJxe99ae_isNaN_b9ae7 0 = .ok (.dload_n 0, 1) := by decide +kernel
theorem dJxe99ae_isNaN_b9ae7_1 : decode cJxe99ae_isNaN_b9ae7 1 = .ok (.dload_n 0, 1) := by decide +kernel
theorem dJxe99ae_isNaN_b9ae7_2 : decode cJxe99ae_isNaN_b9ae7 2 = .ok (.dcmp .l, 1) := by decide +kernel
theorem dJxe99ae_isNaN_b9ae7_3 : decode cJxe99ae_isNaN_b9ae7 3 = .ok (.ifCond .eq 7, 3) := by decide +kernel
theorem dJxe99ae_isNaN_b9ae7_6 : decode cJxe99ae_isNaN_b9ae7 6 = .ok (.iconst 1, 1) := by decide +kernel
theorem dJxe99ae_isNaN_b9ae7_7 : decode cJxe99ae_isNaN_b9ae7 7 = .ok (.goto 4, 3) := by decide +kernel
theorem dJxe99ae_isNaN_b9ae7_10 : decode cJxe99ae_isNaN_b9ae7 10 = .ok (.iconst 0, 1) := by decide +kernel
theorem dJxe99ae_isNaN_b9ae7_11 : decode cJxe99ae_isNaN_b9ae7 11 = .ok (.ireturn, 1) := by decide +kernel
theorem dJxe99ae_doubleToLongBits_ccdee_0 : decode cJxe99ae_doubleToLongBits_ccdee 0 = .ok (.dload_n 0, 1) := by decide +kernel
theorem dJxe99ae_doubleToLongBits_ccdee_1 : decode cJxe99ae_doubleToLongBits_ccdee 1 = .ok (.invokestatic 122, 3) := by decide +kernel
theorem dJxe99ae_doubleToLongBits_ccdee_4 : decode cJxe99ae_doubleToLongBits_ccdee 4 = .ok (.ifCond .ne 8, 3) := by decide +kernel
theorem dJxe99ae_doubleToLongBits_ccdee_7 : decode cJxe99ae_doubleToLongBits_ccdee 7 = .ok (.dload_n 0, 1) := by decide +kernel
theorem dJxe99ae_doubleToLongBits_ccdee_8 : decode cJxe99ae_doubleToLongBits_ccdee 8 = .ok (.invokestatic 134, 3) := by decide +kernel
theorem dJxe99ae_doubleToLongBits_ccdee_11 : decode cJxe99ae_doubleToLongBits_ccdee 11 = .ok (.lreturn, 1) := by decide +kernel
theorem dJxe99ae_doubleToLongBits_ccdee_12 : decode cJxe99ae_doubleToLongBits_ccdee 12 = .ok (.ldc2_w 137, 3) := by decide +kernel
theorem dJxe99ae_doubleToLongBits_ccdee_15 : decode cJxe99ae_doubleToLongBits_ccdee 15 = .ok (.lreturn, 1) := by decide +kernel
theorem dJ6_bitCount_0f7a4_0 : decode cJ6_bitCount_0f7a4 0 = .ok (.iload_n 0, 1) := by decide +kernel
theorem dJ6_bitCount_0f7a4_1 : decode cJ6_bitCount_0f7a4 1 = .ok (.iload_n 0, 1) := by decide +kernel
theorem dJ6_bitCount_0f7a4_2 : decode cJ6_bitCount_0f7a4 2 = .ok (.iconst 1, 1) := by decide +kernel
theorem dJ6_bitCount_0f7a4_3 : decode cJ6_bitCount_0f7a4 3 = .ok (.iushr, 1) := by decide +kernel
theorem dJ6_bitCount_0f7a4_4 : decode cJ6_bitCount_0f7a4 4 = .ok (.ldc_w 265, 3) := by decide +kernel
theorem dJ6_bitCount_0f7a4_7 : decode cJ6_bitCount_0f7a4 7 = .ok (.iand, 1) := by decide +kernel
theorem dJ6_bitCount_0f7a4_8 : decode cJ6_bitCount_0f7a4 8 = .ok (.isub, 1) := by decide +kernel
theorem dJ6_bitCount_0f7a4_9 : decode cJ6_bitCount_0f7a4 9 = .ok (.istore_n 0, 1) := by decide +kernel
theorem dJ6_bitCount_0f7a4_10 : decode cJ6_bitCount_0f7a4 10 = .ok (.iload_n 0, 1) := by decide +kernel
theorem dJ6_bitCount_0f7a4_11 : decode cJ6_bitCount_0f7a4 11 = .ok (.ldc_w 266, 3) := by decide +kernel
theorem dJ6_bitCount_0f7a4_14 : decode cJ6_bitCount_0f7a4 14 = .ok (.iand, 1) := by decide +kernel
theorem dJ6_bitCount_0f7a4_15 : decode cJ6_bitCount_0f7a4 15 = .ok (.iload_n 0, 1) := by decide +kernel
theorem dJ6_bitCount_0f7a4_16 : decode cJ6_bitCount_0f7a4 16 = .ok (.iconst 2, 1) := by decide +kernel
theorem dJ6_bitCount_0f7a4_17 : decode cJ6_bitCount_0f7a4 17 = .ok (.iushr, 1) := by decide +kernel
theorem dJ6_bitCount_0f7a4_18 : decode cJ6_bitCount_0f7a4 18 = .ok (.ldc_w 266, 3) := by decide +kernel
theorem dJ6_bitCount_0f7a4_21 : decode cJ6_bitCount_0f7a4 21 = .ok (.iand, 1) := by decide +kernel
theorem dJ6_bitCount_0f7a4_22 : decode cJ6_bitCount_0f7a4 22 = .ok (.iadd, 1) := by decide +kernel
theorem dJ6_bitCount_0f7a4_23 : decode cJ6_bitCount_0f7a4 23 = .ok (.istore_n 0, 1) := by decide +kernel
theorem dJ6_bitCount_0f7a4_24 : decode cJ6_bitCount_0f7a4 24 = .ok (.iload_n 0, 1) := by decide +kernel
theorem dJ6_bitCount_0f7a4_25 : decode cJ6_bitCount_0f7a4 25 = .ok (.iload_n 0, 1) := by decide +kernel
theorem dJ6_bitCount_0f7a4_26 : decode cJ6_bitCount_0f7a4 26 = .ok (.iconst 4, 1) := by decide +kernel
theorem dJ6_bitCount_0f7a4_27 : decode cJ6_bitCount_0f7a4 27 = .ok (.iushr, 1) := by decide +kernel
theorem dJ6_bitCount_0f7a4_28 : decode cJ6_bitCount_0f7a4 28 = .ok (.iadd, 1) := by decide +kernel
theorem dJ6_bitCount_0f7a4_29 : decode cJ6_bitCount_0f7a4 29 = .ok (.ldc_w 267, 3) := by decide +kernel
theorem dJ6_bitCount_0f7a4_32 : decode cJ6_bitCount_0f7a4 32 = .ok (.iand, 1) := by decide +kernel
theorem dJ6_bitCount_0f7a4_33 : decode cJ6_bitCount_0f7a4 33 = .ok (.istore_n 0, 1) := by decide +kernel
theorem dJ6_bitCount_0f7a4_34 : decode cJ6_bitCount_0f7a4 34 = .ok (.iload_n 0, 1) := by decide +kernel
theorem dJ6_bitCount_0f7a4_35 : decode cJ6_bitCount_0f7a4 35 = .ok (.iload_n 0, 1) := by decide +kernel
theorem dJ6_bitCount_0f7a4_36 : decode cJ6_bitCount_0f7a4 36 = .ok (.bipush 8, 2) := by decide +kernel
theorem dJ6_bitCount_0f7a4_38 : decode cJ6_bitCount_0f7a4 38 = .ok (.iushr, 1) := by decide +kernel
theorem dJ6_bitCount_0f7a4_39 : decode cJ6_bitCount_0f7a4 39 = .ok (.iadd, 1) := by decide +kernel
theorem dJ6_bitCount_0f7a4_40 : decode cJ6_bitCount_0f7a4 40 = .ok (.istore_n 0, 1) := by decide +kernel
theorem dJ6_bitCount_0f7a4_41 : decode cJ6_bitCount_0f7a4 41 = .ok (.iload_n 0, 1) := by decide +kernel
theorem dJ6_bitCount_0f7a4_42 : decode cJ6_bitCount_0f7a4 42 = .ok (.iload_n 0, 1) := by decide +kernel
theorem dJ6_bitCount_0f7a4_43 : decode cJ6_bitCount_0f7a4 43 = .ok (.bipush 16, 2) := by decide +kernel
theorem dJ6_bitCount_0f7a4_45 : decode cJ6_bitCount_0f7a4 45 = .ok (.iushr, 1) := by decide +kernel
theorem dJ6_bitCount_0f7a4_46 : decode cJ6_bitCount_0f7a4 46 = .ok (.iadd, 1) := by decide +kernel
theorem dJ6_bitCount_0f7a4_47 : decode cJ6_bitCount_0f7a4 47 = .ok (.istore_n 0, 1) := by decide +kernel
theorem dJ6_bitCount_0f7a4_48 : decode cJ6_bitCount_0f7a4 48 = .ok (.iload_n 0, 1) := by decide +kernel
theorem dJ6_bitCount_0f7a4_49 : decode cJ6_bitCount_0f7a4 49 = .ok (.bipush 63, 2) := by decide +kernel
theorem dJ6_bitCount_0f7a4_51 : decode cJ6_bitCount_0f7a4 51 = .ok (.iand, 1) := by decide +kernel
theorem dJ6_bitCount_0f7a4_52 : decode cJ6_bitCount_0f7a4 52 = .ok (.ireturn, 1) := by decide +kernel
theorem dJ9_abs_0f7a4_0 : decode cJ9_abs_0f7a4 0 = .ok (.iload_n 0, 1) := by decide +kernel
theorem dJ9_abs_0f7a4_1 : decode cJ9_abs_0f7a4 1 = .ok (.ifCond .ge 8, 3) := by decide +kernel
theorem dJ9_abs_0f7a4_4 : decode cJ9_abs_0f7a4 4 = .ok (.iload_n 0, 1) := by decide +kernel
theorem dJ9_abs_0f7a4_5 : decode cJ9_abs_0f7a4 5 = .ok (.ineg, 1) := by decide +kernel
theorem dJ9_abs_0f7a4_6 : decode cJ9_abs_0f7a4 6 = .ok (.goto 4, 3) := by decide +kernel
theorem dJ9_abs_0f7a4_9 : decode cJ9_abs_0f7a4 9 = .ok (.iload_n 0, 1) := by decide +kernel
theorem dJ9_abs_0f7a4_10 : decode cJ9_abs_0f7a4 10 = .ok (.ireturn, 1) := by decide +kernel
theorem dJ9_max_7cf53_0 : decode cJ9_max_7cf53 0 = .ok (.iload_n 0, 1) := by decide +kernel
theorem dJ9_max_7cf53_1 : decode cJ9_max_7cf53 1 = .ok (.iload_n 1, 1) := by decide +kernel
theorem dJ9_max_7cf53_2 : decode cJ9_max_7cf53 2 = .ok (.if_icmp .lt 7, 3) := by decide +kernel
theorem dJ9_max_7cf53_5 : decode cJ9_max_7cf53 5 = .ok (.iload_n 0, 1) := by decide +kernel
theorem dJ9_max_7cf53_6 : decode cJ9_max_7cf53 6 = .ok (.goto 4, 3) := by decide +kernel
theorem dJ9_max_7cf53_9 : decode cJ9_max_7cf53 9 = .ok (.iload_n 1, 1) := by decide +kernel
theorem dJ9_max_7cf53_10 : decode cJ9_max_7cf53 10 = .ok (.ireturn, 1) := by decide +kernel
theorem dJ9_min_7cf53_0 : decode cJ9_min_7cf53 0 = .ok (.iload_n 0, 1) := by decide +kernel
theorem dJ9_min_7cf53_1 : decode cJ9_min_7cf53 1 = .ok (.iload_n 1, 1) := by decide +kernel
theorem dJ9_min_7cf53_2 : decode cJ9_min_7cf53 2 = .ok (.if_icmp .gt 7, 3) := by decide +kernel
theorem dJ9_min_7cf53_5 : decode cJ9_min_7cf53 5 = .ok (.iload_n 0, 1) := by decide +kernel
theorem dJ9_min_7cf53_6 : decode cJ9_min_7cf53 6 = .ok (.goto 4, 3) := by decide +kernel
theorem dJ9_min_7cf53_9 : decode cJ9_min_7cf53 9 = .ok (.iload_n 1, 1) := by decide +kernel
theorem dJ9_min_7cf53_10 : decode cJ9_min_7cf53 10 = .ok (.ireturn, 1) := by decide +kernel
theorem dJ7_fill_53178_0 : decode cJ7_fill_53178 0 = .ok (.iconst 0, 1) := by decide +kernel
theorem dJ7_fill_53178_1 : decode cJ7_fill_53178 1 = .ok (.istore_n 2, 1) := by decide +kernel
theorem dJ7_fill_53178_2 : decode cJ7_fill_53178 2 = .ok (.aload_n 0, 1) := by decide +kernel
theorem dJ7_fill_53178_3 : decode cJ7_fill_53178 3 = .ok (.arraylength, 1) := by decide +kernel
theorem dJ7_fill_53178_4 : decode cJ7_fill_53178 4 = .ok (.istore_n 3, 1) := by decide +kernel
theorem dJ7_fill_53178_5 : decode cJ7_fill_53178 5 = .ok (.iload_n 2, 1) := by decide +kernel
theorem dJ7_fill_53178_6 : decode cJ7_fill_53178 6 = .ok (.iload_n 3, 1) := by decide +kernel
theorem dJ7_fill_53178_7 : decode cJ7_fill_53178 7 = .ok (.if_icmp .ge 13, 3) := by decide +kernel
theorem dJ7_fill_53178_10 : decode cJ7_fill_53178 10 = .ok (.aload_n 0, 1) := by decide +kernel
theorem dJ7_fill_53178_11 : decode cJ7_fill_53178 11 = .ok (.iload_n 2, 1) := by decide +kernel
theorem dJ7_fill_53178_12 : decode cJ7_fill_53178 12 = .ok (.iload_n 1, 1) := by decide +kernel
theorem dJ7_fill_53178_13 : decode cJ7_fill_53178 13 = .ok (.iastore, 1) := by decide +kernel
theorem dJ7_fill_53178_14 : decode cJ7_fill_53178 14 = .ok (.iinc 2 1, 3) := by decide +kernel
theorem dJ7_fill_53178_17 : decode cJ7_fill_53178 17 = .ok (.goto (-12), 3) := by decide +kernel
theorem dJ7_fill_53178_20 : decode cJ7_fill_53178 20 = .ok (.return_, 1) := by decide +kernel
theorem dL_begin_0 : decode cL_begin 0 = .ok (.aload_n 3, 1) := by decide +kernel
theorem dL_begin_1 : decode cL_begin 1 = .ok (.iconst 0, 1) := by decide +kernel
theorem dL_begin_2 : decode cL_begin 2 = .ok (.aload_n 0, 1) := by decide +kernel
theorem dL_begin_3 : decode cL_begin 3 = .ok (.iload_n 1, 1) := by decide +kernel
theorem dL_begin_4 : decode cL_begin 4 = .ok (.iload_n 2, 1) := by decide +kernel
theorem dL_begin_5 : decode cL_begin 5 = .ok (.invokevirtual 7, 3) := by decide +kernel
theorem dL_begin_8 : decode cL_begin 8 = .ok (.i2l, 1) := by decide +kernel
theorem dL_begin_9 : decode cL_begin 9 = .ok (.lastore, 1) := by decide +kernel
theorem dL_begin_10 : decode cL_begin 10 = .ok (.goto 7, 3) := by decide +kernel
theorem dL_begin_13 : decode cL_begin 13 = .ok (.astore 4, 2) := by decide +kernel
theorem dL_begin_15 : decode cL_begin 15 = .ok (.iconst 1, 1) := by decide +kernel
theorem dL_begin_16 : decode cL_begin 16 = .ok (.ireturn, 1) := by decide +kernel
theorem dL_begin_17 : decode cL_begin 17 = .ok (.iconst 0, 1) := by decide +kernel
theorem dL_begin_18 : decode cL_begin 18 = .ok (.ireturn, 1) := by decide +kernel
theorem dL_join_0 : decode cL_join 0 = .ok (.aload 4, 2) := by decide +kernel
theorem dL_join_2 : decode cL_join 2 = .ok (.iconst 0, 1) := by decide +kernel
theorem dL_join_3 : decode cL_join 3 = .ok (.aload_n 0, 1) := by decide +kernel
theorem dL_join_4 : decode cL_join 4 = .ok (.iload_n 1, 1) := by decide +kernel
theorem dL_join_5 : decode cL_join 5 = .ok (.iload_n 2, 1) := by decide +kernel
theorem dL_join_6 : decode cL_join 6 = .ok (.iload_n 3, 1) := by decide +kernel
theorem dL_join_7 : decode cL_join 7 = .ok (.invokevirtual 15, 3) := by decide +kernel
theorem dL_join_10 : decode cL_join 10 = .ok (.i2l, 1) := by decide +kernel
theorem dL_join_11 : decode cL_join 11 = .ok (.lastore, 1) := by decide +kernel
theorem dL_join_12 : decode cL_join 12 = .ok (.goto 11, 3) := by decide +kernel
theorem dL_join_15 : decode cL_join 15 = .ok (.astore 5, 2) := by decide +kernel
theorem dL_join_17 : decode cL_join 17 = .ok (.iconst 1, 1) := by decide +kernel
theorem dL_join_18 : decode cL_join 18 = .ok (.ireturn, 1) := by decide +kernel
theorem dL_join_19 : decode cL_join 19 = .ok (.astore 5, 2) := by decide +kernel
theorem dL_join_21 : decode cL_join 21 = .ok (.iconst 2, 1) := by decide +kernel
theorem dL_join_22 : decode cL_join 22 = .ok (.ireturn, 1) := by decide +kernel
theorem dL_join_23 : decode cL_join 23 = .ok (.iconst 0, 1) := by decide +kernel
theorem dL_join_24 : decode cL_join 24 = .ok (.ireturn, 1) := by decide +kernel
theorem dL_weigh_0 : decode cL_weigh 0 = .ok (.aload_n 3, 1) := by decide +kernel
theorem dL_weigh_1 : decode cL_weigh 1 = .ok (.iconst 0, 1) := by decide +kernel
theorem dL_weigh_2 : decode cL_weigh 2 = .ok (.aload_n 0, 1) := by decide +kernel
theorem dL_weigh_3 : decode cL_weigh 3 = .ok (.iload_n 1, 1) := by decide +kernel
theorem dL_weigh_4 : decode cL_weigh 4 = .ok (.iload_n 2, 1) := by decide +kernel
theorem dL_weigh_5 : decode cL_weigh 5 = .ok (.invokevirtual 21, 3) := by decide +kernel
theorem dL_weigh_8 : decode cL_weigh 8 = .ok (.i2l, 1) := by decide +kernel
theorem dL_weigh_9 : decode cL_weigh 9 = .ok (.lastore, 1) := by decide +kernel
theorem dL_weigh_10 : decode cL_weigh 10 = .ok (.goto 11, 3) := by decide +kernel
theorem dL_weigh_13 : decode cL_weigh 13 = .ok (.astore 4, 2) := by decide +kernel
theorem dL_weigh_15 : decode cL_weigh 15 = .ok (.iconst 1, 1) := by decide +kernel
theorem dL_weigh_16 : decode cL_weigh 16 = .ok (.ireturn, 1) := by decide +kernel
theorem dL_weigh_17 : decode cL_weigh 17 = .ok (.astore 4, 2) := by decide +kernel
theorem dL_weigh_19 : decode cL_weigh 19 = .ok (.iconst 2, 1) := by decide +kernel
theorem dL_weigh_20 : decode cL_weigh 20 = .ok (.ireturn, 1) := by decide +kernel
theorem dL_weigh_21 : decode cL_weigh 21 = .ok (.iconst 0, 1) := by decide +kernel
theorem dL_weigh_22 : decode cL_weigh 22 = .ok (.ireturn, 1) := by decide +kernel
theorem dL_remove_0 : decode cL_remove 0 = .ok (.aload_n 2, 1) := by decide +kernel
theorem dL_remove_1 : decode cL_remove 1 = .ok (.iconst 0, 1) := by decide +kernel
theorem dL_remove_2 : decode cL_remove 2 = .ok (.aload_n 0, 1) := by decide +kernel
theorem dL_remove_3 : decode cL_remove 3 = .ok (.iload_n 1, 1) := by decide +kernel
theorem dL_remove_4 : decode cL_remove 4 = .ok (.invokevirtual 24, 3) := by decide +kernel
theorem dL_remove_7 : decode cL_remove 7 = .ok (.i2l, 1) := by decide +kernel
theorem dL_remove_8 : decode cL_remove 8 = .ok (.lastore, 1) := by decide +kernel
theorem dL_remove_9 : decode cL_remove 9 = .ok (.goto 9, 3) := by decide +kernel
theorem dL_remove_12 : decode cL_remove 12 = .ok (.astore_n 3, 1) := by decide +kernel
theorem dL_remove_13 : decode cL_remove 13 = .ok (.iconst 1, 1) := by decide +kernel
theorem dL_remove_14 : decode cL_remove 14 = .ok (.ireturn, 1) := by decide +kernel
theorem dL_remove_15 : decode cL_remove 15 = .ok (.astore_n 3, 1) := by decide +kernel
theorem dL_remove_16 : decode cL_remove 16 = .ok (.iconst 2, 1) := by decide +kernel
theorem dL_remove_17 : decode cL_remove 17 = .ok (.ireturn, 1) := by decide +kernel
theorem dL_remove_18 : decode cL_remove 18 = .ok (.iconst 0, 1) := by decide +kernel
theorem dL_remove_19 : decode cL_remove 19 = .ok (.ireturn, 1) := by decide +kernel
theorem dL_multiply_0 : decode cL_multiply 0 = .ok (.aload_n 2, 1) := by decide +kernel
theorem dL_multiply_1 : decode cL_multiply 1 = .ok (.iconst 0, 1) := by decide +kernel
theorem dL_multiply_2 : decode cL_multiply 2 = .ok (.aload_n 0, 1) := by decide +kernel
theorem dL_multiply_3 : decode cL_multiply 3 = .ok (.iload_n 1, 1) := by decide +kernel
theorem dL_multiply_4 : decode cL_multiply 4 = .ok (.invokevirtual 30, 3) := by decide +kernel
theorem dL_multiply_7 : decode cL_multiply 7 = .ok (.i2l, 1) := by decide +kernel
theorem dL_multiply_8 : decode cL_multiply 8 = .ok (.lastore, 1) := by decide +kernel
theorem dL_multiply_9 : decode cL_multiply 9 = .ok (.goto 9, 3) := by decide +kernel
theorem dL_multiply_12 : decode cL_multiply 12 = .ok (.astore_n 3, 1) := by decide +kernel
theorem dL_multiply_13 : decode cL_multiply 13 = .ok (.iconst 1, 1) := by decide +kernel
theorem dL_multiply_14 : decode cL_multiply 14 = .ok (.ireturn, 1) := by decide +kernel
theorem dL_multiply_15 : decode cL_multiply 15 = .ok (.astore_n 3, 1) := by decide +kernel
theorem dL_multiply_16 : decode cL_multiply 16 = .ok (.iconst 2, 1) := by decide +kernel
theorem dL_multiply_17 : decode cL_multiply 17 = .ok (.ireturn, 1) := by decide +kernel
theorem dL_multiply_18 : decode cL_multiply 18 = .ok (.iconst 0, 1) := by decide +kernel
theorem dL_multiply_19 : decode cL_multiply 19 = .ok (.ireturn, 1) := by decide +kernel
theorem dL_label_0 : decode cL_label 0 = .ok (.aload 4, 2) := by decide +kernel
theorem dL_label_2 : decode cL_label 2 = .ok (.iconst 0, 1) := by decide +kernel
theorem dL_label_3 : decode cL_label 3 = .ok (.aload_n 0, 1) := by decide +kernel
theorem dL_label_4 : decode cL_label 4 = .ok (.iload_n 1, 1) := by decide +kernel
theorem dL_label_5 : decode cL_label 5 = .ok (.iload_n 2, 1) := by decide +kernel
theorem dL_label_6 : decode cL_label 6 = .ok (.iload_n 3, 1) := by decide +kernel
theorem dL_label_7 : decode cL_label 7 = .ok (.invokevirtual 33, 3) := by decide +kernel
theorem dL_label_10 : decode cL_label 10 = .ok (.i2l, 1) := by decide +kernel
theorem dL_label_11 : decode cL_label 11 = .ok (.lastore, 1) := by decide +kernel
theorem dL_label_12 : decode cL_label 12 = .ok (.goto 11, 3) := by decide +kernel
theorem dL_label_15 : decode cL_label 15 = .ok (.astore 5, 2) := by decide +kernel
theorem dL_label_17 : decode cL_label 17 = .ok (.iconst 1, 1) := by decide +kernel
theorem dL_label_18 : decode cL_label 18 = .ok (.ireturn, 1) := by decide +kernel
theorem dL_label_19 : decode cL_label 19 = .ok (.astore 5, 2) := by decide +kernel
theorem dL_label_21 : decode cL_label 21 = .ok (.iconst 2, 1) := by decide +kernel
theorem dL_label_22 : decode cL_label 22 = .ok (.ireturn, 1) := by decide +kernel
theorem dL_label_23 : decode cL_label 23 = .ok (.iconst 0, 1) := by decide +kernel
theorem dL_label_24 : decode cL_label 24 = .ok (.ireturn, 1) := by decide +kernel
theorem dL_hold_0 : decode cL_hold 0 = .ok (.aload_n 3, 1) := by decide +kernel
theorem dL_hold_1 : decode cL_hold 1 = .ok (.iconst 0, 1) := by decide +kernel
theorem dL_hold_2 : decode cL_hold 2 = .ok (.aload_n 0, 1) := by decide +kernel
theorem dL_hold_3 : decode cL_hold 3 = .ok (.iload_n 1, 1) := by decide +kernel
theorem dL_hold_4 : decode cL_hold 4 = .ok (.iload_n 2, 1) := by decide +kernel
theorem dL_hold_5 : decode cL_hold 5 = .ok (.invokevirtual 37, 3) := by decide +kernel
theorem dL_hold_8 : decode cL_hold 8 = .ok (.i2l, 1) := by decide +kernel
theorem dL_hold_9 : decode cL_hold 9 = .ok (.lastore, 1) := by decide +kernel
theorem dL_hold_10 : decode cL_hold 10 = .ok (.goto 11, 3) := by decide +kernel
theorem dL_hold_13 : decode cL_hold 13 = .ok (.astore 4, 2) := by decide +kernel
theorem dL_hold_15 : decode cL_hold 15 = .ok (.iconst 1, 1) := by decide +kernel
theorem dL_hold_16 : decode cL_hold 16 = .ok (.ireturn, 1) := by decide +kernel
theorem dL_hold_17 : decode cL_hold 17 = .ok (.astore 4, 2) := by decide +kernel
theorem dL_hold_19 : decode cL_hold 19 = .ok (.iconst 2, 1) := by decide +kernel
theorem dL_hold_20 : decode cL_hold 20 = .ok (.ireturn, 1) := by decide +kernel
theorem dL_hold_21 : decode cL_hold 21 = .ok (.iconst 0, 1) := by decide +kernel
theorem dL_hold_22 : decode cL_hold 22 = .ok (.ireturn, 1) := by decide +kernel
theorem dL_labelByColors_0 : decode cL_labelByColors 0 = .ok (.aload_n 1, 1) := by decide +kernel
theorem dL_labelByColors_1 : decode cL_labelByColors 1 = .ok (.iconst 0, 1) := by decide +kernel
theorem dL_labelByColors_2 : decode cL_labelByColors 2 = .ok (.aload_n 0, 1) := by decide +kernel
theorem dL_labelByColors_3 : decode cL_labelByColors 3 = .ok (.invokevirtual 40, 3) := by decide +kernel
theorem dL_labelByColors_6 : decode cL_labelByColors 6 = .ok (.i2l, 1) := by decide +kernel
theorem dL_labelByColors_7 : decode cL_labelByColors 7 = .ok (.lastore, 1) := by decide +kernel
theorem dL_labelByColors_8 : decode cL_labelByColors 8 = .ok (.goto 6, 3) := by decide +kernel
theorem dL_labelByColors_11 : decode cL_labelByColors 11 = .ok (.astore_n 2, 1) := by decide +kernel
theorem dL_labelByColors_12 : decode cL_labelByColors 12 = .ok (.iconst 1, 1) := by decide +kernel
theorem dL_labelByColors_13 : decode cL_labelByColors 13 = .ok (.ireturn, 1) := by decide +kernel
theorem dL_labelByColors_14 : decode cL_labelByColors 14 = .ok (.iconst 0, 1) := by decide +kernel
theorem dL_labelByColors_15 : decode cL_labelByColors 15 = .ok (.ireturn, 1) := by decide +kernel
theorem dL_takeHandle_0 : decode cL_takeHandle 0 = .ok (.aload_n 2, 1) := by decide +kernel
theorem dL_takeHandle_1 : decode cL_takeHandle 1 = .ok (.iconst 0, 1) := by decide +kernel
theorem dL_takeHandle_2 : decode cL_takeHandle 2 = .ok (.aload_n 0, 1) := by decide +kernel
theorem dL_takeHandle_3 : decode cL_takeHandle 3 = .ok (.iload_n 1, 1) := by decide +kernel
theorem dL_takeHandle_4 : decode cL_takeHandle 4 = .ok (.invokevirtual 44, 3) := by decide +kernel
theorem dL_takeHandle_7 : decode cL_takeHandle 7 = .ok (.i2l, 1) := by decide +kernel
theorem dL_takeHandle_8 : decode cL_takeHandle 8 = .ok (.lastore, 1) := by decide +kernel
theorem dL_takeHandle_9 : decode cL_takeHandle 9 = .ok (.goto 6, 3) := by decide +kernel
theorem dL_takeHandle_12 : decode cL_takeHandle 12 = .ok (.astore_n 3, 1) := by decide +kernel
theorem dL_takeHandle_13 : decode cL_takeHandle 13 = .ok (.iconst 1, 1) := by decide +kernel
theorem dL_takeHandle_14 : decode cL_takeHandle 14 = .ok (.ireturn, 1) := by decide +kernel
theorem dL_takeHandle_15 : decode cL_takeHandle 15 = .ok (.iconst 0, 1) := by decide +kernel
theorem dL_takeHandle_16 : decode cL_takeHandle 16 = .ok (.ireturn, 1) := by decide +kernel
theorem dL_append_0 : decode cL_append 0 = .ok (.aload_n 2, 1) := by decide +kernel
theorem dL_append_1 : decode cL_append 1 = .ok (.iconst 0, 1) := by decide +kernel
theorem dL_append_2 : decode cL_append 2 = .ok (.aload_n 0, 1) := by decide +kernel
theorem dL_append_3 : decode cL_append 3 = .ok (.iload_n 1, 1) := by decide +kernel
theorem dL_append_4 : decode cL_append 4 = .ok (.invokevirtual 47, 3) := by decide +kernel
theorem dL_append_7 : decode cL_append 7 = .ok (.i2l, 1) := by decide +kernel
theorem dL_append_8 : decode cL_append 8 = .ok (.lastore, 1) := by decide +kernel
theorem dL_append_9 : decode cL_append 9 = .ok (.goto 9, 3) := by decide +kernel
theorem dL_append_12 : decode cL_append 12 = .ok (.astore_n 3, 1) := by decide +kernel
theorem dL_append_13 : decode cL_append 13 = .ok (.iconst 1, 1) := by decide +kernel
theorem dL_append_14 : decode cL_append 14 = .ok (.ireturn, 1) := by decide +kernel
theorem dL_append_15 : decode cL_append 15 = .ok (.astore_n 3, 1) := by decide +kernel
theorem dL_append_16 : decode cL_append 16 = .ok (.iconst 2, 1) := by decide +kernel
theorem dL_append_17 : decode cL_append 17 = .ok (.ireturn, 1) := by decide +kernel
theorem dL_append_18 : decode cL_append 18 = .ok (.iconst 0, 1) := by decide +kernel
theorem dL_append_19 : decode cL_append 19 = .ok (.ireturn, 1) := by decide +kernel
theorem dL_read_0 : decode cL_read 0 = .ok (.aload_n 1, 1) := by decide +kernel
theorem dL_read_1 : decode cL_read 1 = .ok (.iconst 0, 1) := by decide +kernel
theorem dL_read_2 : decode cL_read 2 = .ok (.aload_n 0, 1) := by decide +kernel
theorem dL_read_3 : decode cL_read 3 = .ok (.invokevirtual 50, 3) := by decide +kernel
theorem dL_read_6 : decode cL_read 6 = .ok (.i2l, 1) := by decide +kernel
theorem dL_read_7 : decode cL_read 7 = .ok (.lastore, 1) := by decide +kernel
theorem dL_read_8 : decode cL_read 8 = .ok (.goto 6, 3) := by decide +kernel
theorem dL_read_11 : decode cL_read 11 = .ok (.astore_n 2, 1) := by decide +kernel
theorem dL_read_12 : decode cL_read 12 = .ok (.iconst 1, 1) := by decide +kernel
theorem dL_read_13 : decode cL_read 13 = .ok (.ireturn, 1) := by decide +kernel
theorem dL_read_14 : decode cL_read 14 = .ok (.iconst 0, 1) := by decide +kernel
theorem dL_read_15 : decode cL_read 15 = .ok (.ireturn, 1) := by decide +kernel
theorem dL_take_0 : decode cL_take 0 = .ok (.aload_n 2, 1) := by decide +kernel
theorem dL_take_1 : decode cL_take 1 = .ok (.iconst 0, 1) := by decide +kernel
theorem dL_take_2 : decode cL_take 2 = .ok (.aload_n 0, 1) := by decide +kernel
theorem dL_take_3 : decode cL_take 3 = .ok (.iload_n 1, 1) := by decide +kernel
theorem dL_take_4 : decode cL_take 4 = .ok (.invokevirtual 53, 3) := by decide +kernel
theorem dL_take_7 : decode cL_take 7 = .ok (.i2l, 1) := by decide +kernel
theorem dL_take_8 : decode cL_take 8 = .ok (.lastore, 1) := by decide +kernel
theorem dL_take_9 : decode cL_take 9 = .ok (.goto 6, 3) := by decide +kernel
theorem dL_take_12 : decode cL_take 12 = .ok (.astore_n 3, 1) := by decide +kernel
theorem dL_take_13 : decode cL_take 13 = .ok (.iconst 1, 1) := by decide +kernel
theorem dL_take_14 : decode cL_take 14 = .ok (.ireturn, 1) := by decide +kernel
theorem dL_take_15 : decode cL_take 15 = .ok (.iconst 0, 1) := by decide +kernel
theorem dL_take_16 : decode cL_take 16 = .ok (.ireturn, 1) := by decide +kernel
theorem dL_restore_0 : decode cL_restore 0 = .ok (.aload_n 2, 1) := by decide +kernel
theorem dL_restore_1 : decode cL_restore 1 = .ok (.iconst 0, 1) := by decide +kernel
theorem dL_restore_2 : decode cL_restore 2 = .ok (.aload_n 0, 1) := by decide +kernel
theorem dL_restore_3 : decode cL_restore 3 = .ok (.iload_n 1, 1) := by decide +kernel
theorem dL_restore_4 : decode cL_restore 4 = .ok (.invokevirtual 56, 3) := by decide +kernel
theorem dL_restore_7 : decode cL_restore 7 = .ok (.i2l, 1) := by decide +kernel
theorem dL_restore_8 : decode cL_restore 8 = .ok (.lastore, 1) := by decide +kernel
theorem dL_restore_9 : decode cL_restore 9 = .ok (.goto 9, 3) := by decide +kernel
theorem dL_restore_12 : decode cL_restore 12 = .ok (.astore_n 3, 1) := by decide +kernel
theorem dL_restore_13 : decode cL_restore 13 = .ok (.iconst 1, 1) := by decide +kernel
theorem dL_restore_14 : decode cL_restore 14 = .ok (.ireturn, 1) := by decide +kernel
theorem dL_restore_15 : decode cL_restore 15 = .ok (.astore_n 3, 1) := by decide +kernel
theorem dL_restore_16 : decode cL_restore 16 = .ok (.iconst 2, 1) := by decide +kernel
theorem dL_restore_17 : decode cL_restore 17 = .ok (.ireturn, 1) := by decide +kernel
theorem dL_restore_18 : decode cL_restore 18 = .ok (.iconst 0, 1) := by decide +kernel
theorem dL_restore_19 : decode cL_restore 19 = .ok (.ireturn, 1) := by decide +kernel
theorem dL_undo_0 : decode cL_undo 0 = .ok (.aload_n 1, 1) := by decide +kernel
theorem dL_undo_1 : decode cL_undo 1 = .ok (.iconst 0, 1) := by decide +kernel
theorem dL_undo_2 : decode cL_undo 2 = .ok (.aload_n 0, 1) := by decide +kernel
theorem dL_undo_3 : decode cL_undo 3 = .ok (.invokevirtual 59, 3) := by decide +kernel
theorem dL_undo_6 : decode cL_undo 6 = .ok (.i2l, 1) := by decide +kernel
theorem dL_undo_7 : decode cL_undo 7 = .ok (.lastore, 1) := by decide +kernel
theorem dL_undo_8 : decode cL_undo 8 = .ok (.goto 6, 3) := by decide +kernel
theorem dL_undo_11 : decode cL_undo 11 = .ok (.astore_n 2, 1) := by decide +kernel
theorem dL_undo_12 : decode cL_undo 12 = .ok (.iconst 1, 1) := by decide +kernel
theorem dL_undo_13 : decode cL_undo 13 = .ok (.ireturn, 1) := by decide +kernel
theorem dL_undo_14 : decode cL_undo 14 = .ok (.iconst 0, 1) := by decide +kernel
theorem dL_undo_15 : decode cL_undo 15 = .ok (.ireturn, 1) := by decide +kernel
theorem dL_joined_0 : decode cL_joined 0 = .ok (.aload_n 3, 1) := by decide +kernel
theorem dL_joined_1 : decode cL_joined 1 = .ok (.iconst 0, 1) := by decide +kernel
theorem dL_joined_2 : decode cL_joined 2 = .ok (.aload_n 0, 1) := by decide +kernel
theorem dL_joined_3 : decode cL_joined 3 = .ok (.iload_n 1, 1) := by decide +kernel
theorem dL_joined_4 : decode cL_joined 4 = .ok (.iload_n 2, 1) := by decide +kernel
theorem dL_joined_5 : decode cL_joined 5 = .ok (.invokevirtual 62, 3) := by decide +kernel
theorem dL_joined_8 : decode cL_joined 8 = .ok (.i2l, 1) := by decide +kernel
theorem dL_joined_9 : decode cL_joined 9 = .ok (.lastore, 1) := by decide +kernel
theorem dL_joined_10 : decode cL_joined 10 = .ok (.goto 7, 3) := by decide +kernel
theorem dL_joined_13 : decode cL_joined 13 = .ok (.astore 4, 2) := by decide +kernel
theorem dL_joined_15 : decode cL_joined 15 = .ok (.iconst 1, 1) := by decide +kernel
theorem dL_joined_16 : decode cL_joined 16 = .ok (.ireturn, 1) := by decide +kernel
theorem dL_joined_17 : decode cL_joined 17 = .ok (.iconst 0, 1) := by decide +kernel
theorem dL_joined_18 : decode cL_joined 18 = .ok (.ireturn, 1) := by decide +kernel
theorem dL_vertex_0 : decode cL_vertex 0 = .ok (.aload_n 3, 1) := by decide +kernel
theorem dL_vertex_1 : decode cL_vertex 1 = .ok (.iconst 0, 1) := by decide +kernel
theorem dL_vertex_2 : decode cL_vertex 2 = .ok (.aload_n 0, 1) := by decide +kernel
theorem dL_vertex_3 : decode cL_vertex 3 = .ok (.iload_n 1, 1) := by decide +kernel
theorem dL_vertex_4 : decode cL_vertex 4 = .ok (.iload_n 2, 1) := by decide +kernel
theorem dL_vertex_5 : decode cL_vertex 5 = .ok (.invokevirtual 65, 3) := by decide +kernel
theorem dL_vertex_8 : decode cL_vertex 8 = .ok (.i2l, 1) := by decide +kernel
theorem dL_vertex_9 : decode cL_vertex 9 = .ok (.lastore, 1) := by decide +kernel
theorem dL_vertex_10 : decode cL_vertex 10 = .ok (.goto 11, 3) := by decide +kernel
theorem dL_vertex_13 : decode cL_vertex 13 = .ok (.astore 4, 2) := by decide +kernel
theorem dL_vertex_15 : decode cL_vertex 15 = .ok (.iconst 1, 1) := by decide +kernel
theorem dL_vertex_16 : decode cL_vertex 16 = .ok (.ireturn, 1) := by decide +kernel
theorem dL_vertex_17 : decode cL_vertex 17 = .ok (.astore 4, 2) := by decide +kernel
theorem dL_vertex_19 : decode cL_vertex 19 = .ok (.iconst 2, 1) := by decide +kernel
theorem dL_vertex_20 : decode cL_vertex 20 = .ok (.ireturn, 1) := by decide +kernel
theorem dL_vertex_21 : decode cL_vertex 21 = .ok (.iconst 0, 1) := by decide +kernel
theorem dL_vertex_22 : decode cL_vertex 22 = .ok (.ireturn, 1) := by decide +kernel
theorem dL_handle_0 : decode cL_handle 0 = .ok (.aload_n 2, 1) := by decide +kernel
theorem dL_handle_1 : decode cL_handle 1 = .ok (.iconst 0, 1) := by decide +kernel
theorem dL_handle_2 : decode cL_handle 2 = .ok (.aload_n 0, 1) := by decide +kernel
theorem dL_handle_3 : decode cL_handle 3 = .ok (.iload_n 1, 1) := by decide +kernel
theorem dL_handle_4 : decode cL_handle 4 = .ok (.invokevirtual 68, 3) := by decide +kernel
theorem dL_handle_7 : decode cL_handle 7 = .ok (.i2l, 1) := by decide +kernel
theorem dL_handle_8 : decode cL_handle 8 = .ok (.lastore, 1) := by decide +kernel
theorem dL_handle_9 : decode cL_handle 9 = .ok (.goto 6, 3) := by decide +kernel
theorem dL_handle_12 : decode cL_handle 12 = .ok (.astore_n 3, 1) := by decide +kernel
theorem dL_handle_13 : decode cL_handle 13 = .ok (.iconst 1, 1) := by decide +kernel
theorem dL_handle_14 : decode cL_handle 14 = .ok (.ireturn, 1) := by decide +kernel
theorem dL_handle_15 : decode cL_handle 15 = .ok (.iconst 0, 1) := by decide +kernel
theorem dL_handle_16 : decode cL_handle 16 = .ok (.ireturn, 1) := by decide +kernel
theorem dL_bound_0 : decode cL_bound 0 = .ok (.aload_n 2, 1) := by decide +kernel
theorem dL_bound_1 : decode cL_bound 1 = .ok (.iconst 0, 1) := by decide +kernel
theorem dL_bound_2 : decode cL_bound 2 = .ok (.aload_n 0, 1) := by decide +kernel
theorem dL_bound_3 : decode cL_bound 3 = .ok (.iload_n 1, 1) := by decide +kernel
theorem dL_bound_4 : decode cL_bound 4 = .ok (.invokevirtual 71, 3) := by decide +kernel
theorem dL_bound_7 : decode cL_bound 7 = .ok (.lastore, 1) := by decide +kernel
theorem dL_bound_8 : decode cL_bound 8 = .ok (.goto 6, 3) := by decide +kernel
theorem dL_bound_11 : decode cL_bound 11 = .ok (.astore_n 3, 1) := by decide +kernel
theorem dL_bound_12 : decode cL_bound 12 = .ok (.iconst 1, 1) := by decide +kernel
theorem dL_bound_13 : decode cL_bound 13 = .ok (.ireturn, 1) := by decide +kernel
theorem dL_bound_14 : decode cL_bound 14 = .ok (.iconst 0, 1) := by decide +kernel
theorem dL_bound_15 : decode cL_bound 15 = .ok (.ireturn, 1) := by decide +kernel
theorem dL_whyNot_0 : decode cL_whyNot 0 = .ok (.aload_n 2, 1) := by decide +kernel
theorem dL_whyNot_1 : decode cL_whyNot 1 = .ok (.iconst 0, 1) := by decide +kernel
theorem dL_whyNot_2 : decode cL_whyNot 2 = .ok (.aload_n 0, 1) := by decide +kernel
theorem dL_whyNot_3 : decode cL_whyNot 3 = .ok (.iload_n 1, 1) := by decide +kernel
theorem dL_whyNot_4 : decode cL_whyNot 4 = .ok (.invokevirtual 75, 3) := by decide +kernel
theorem dL_whyNot_7 : decode cL_whyNot 7 = .ok (.i2l, 1) := by decide +kernel
theorem dL_whyNot_8 : decode cL_whyNot 8 = .ok (.lastore, 1) := by decide +kernel
theorem dL_whyNot_9 : decode cL_whyNot 9 = .ok (.goto 6, 3) := by decide +kernel
theorem dL_whyNot_12 : decode cL_whyNot 12 = .ok (.astore_n 3, 1) := by decide +kernel
theorem dL_whyNot_13 : decode cL_whyNot 13 = .ok (.iconst 1, 1) := by decide +kernel
theorem dL_whyNot_14 : decode cL_whyNot 14 = .ok (.ireturn, 1) := by decide +kernel
theorem dL_whyNot_15 : decode cL_whyNot 15 = .ok (.iconst 0, 1) := by decide +kernel
theorem dL_whyNot_16 : decode cL_whyNot 16 = .ok (.ireturn, 1) := by decide +kernel
theorem dL_whyNotMultiply_0 : decode cL_whyNotMultiply 0 = .ok (.aload_n 2, 1) := by decide +kernel
theorem dL_whyNotMultiply_1 : decode cL_whyNotMultiply 1 = .ok (.iconst 0, 1) := by decide +kernel
theorem dL_whyNotMultiply_2 : decode cL_whyNotMultiply 2 = .ok (.aload_n 0, 1) := by decide +kernel
theorem dL_whyNotMultiply_3 : decode cL_whyNotMultiply 3 = .ok (.iload_n 1, 1) := by decide +kernel
theorem dL_whyNotMultiply_4 : decode cL_whyNotMultiply 4 = .ok (.invokevirtual 78, 3) := by decide +kernel
theorem dL_whyNotMultiply_7 : decode cL_whyNotMultiply 7 = .ok (.i2l, 1) := by decide +kernel
theorem dL_whyNotMultiply_8 : decode cL_whyNotMultiply 8 = .ok (.lastore, 1) := by decide +kernel
theorem dL_whyNotMultiply_9 : decode cL_whyNotMultiply 9 = .ok (.goto 9, 3) := by decide +kernel
theorem dL_whyNotMultiply_12 : decode cL_whyNotMultiply 12 = .ok (.astore_n 3, 1) := by decide +kernel
theorem dL_whyNotMultiply_13 : decode cL_whyNotMultiply 13 = .ok (.iconst 1, 1) := by decide +kernel
theorem dL_whyNotMultiply_14 : decode cL_whyNotMultiply 14 = .ok (.ireturn, 1) := by decide +kernel
theorem dL_whyNotMultiply_15 : decode cL_whyNotMultiply 15 = .ok (.astore_n 3, 1) := by decide +kernel
theorem dL_whyNotMultiply_16 : decode cL_whyNotMultiply 16 = .ok (.iconst 2, 1) := by decide +kernel
theorem dL_whyNotMultiply_17 : decode cL_whyNotMultiply 17 = .ok (.ireturn, 1) := by decide +kernel
theorem dL_whyNotMultiply_18 : decode cL_whyNotMultiply 18 = .ok (.iconst 0, 1) := by decide +kernel
theorem dL_whyNotMultiply_19 : decode cL_whyNotMultiply 19 = .ok (.ireturn, 1) := by decide +kernel
theorem dL_bestHandle_0 : decode cL_bestHandle 0 = .ok (.aload_n 3, 1) := by decide +kernel
theorem dL_bestHandle_1 : decode cL_bestHandle 1 = .ok (.iconst 0, 1) := by decide +kernel
theorem dL_bestHandle_2 : decode cL_bestHandle 2 = .ok (.aload_n 0, 1) := by decide +kernel
theorem dL_bestHandle_3 : decode cL_bestHandle 3 = .ok (.iload_n 1, 1) := by decide +kernel
theorem dL_bestHandle_4 : decode cL_bestHandle 4 = .ok (.iload_n 2, 1) := by decide +kernel
theorem dL_bestHandle_5 : decode cL_bestHandle 5 = .ok (.invokevirtual 81, 3) := by decide +kernel
theorem dL_bestHandle_8 : decode cL_bestHandle 8 = .ok (.lastore, 1) := by decide +kernel
theorem dL_bestHandle_9 : decode cL_bestHandle 9 = .ok (.goto 7, 3) := by decide +kernel
theorem dL_bestHandle_12 : decode cL_bestHandle 12 = .ok (.astore 4, 2) := by decide +kernel
theorem dL_bestHandle_14 : decode cL_bestHandle 14 = .ok (.iconst 1, 1) := by decide +kernel
theorem dL_bestHandle_15 : decode cL_bestHandle 15 = .ok (.ireturn, 1) := by decide +kernel
theorem dL_bestHandle_16 : decode cL_bestHandle 16 = .ok (.iconst 0, 1) := by decide +kernel
theorem dL_bestHandle_17 : decode cL_bestHandle 17 = .ok (.ireturn, 1) := by decide +kernel
theorem dL_count_0 : decode cL_count 0 = .ok (.aload_n 2, 1) := by decide +kernel
theorem dL_count_1 : decode cL_count 1 = .ok (.iconst 0, 1) := by decide +kernel
theorem dL_count_2 : decode cL_count 2 = .ok (.aload_n 0, 1) := by decide +kernel
theorem dL_count_3 : decode cL_count 3 = .ok (.iload_n 1, 1) := by decide +kernel
theorem dL_count_4 : decode cL_count 4 = .ok (.invokevirtual 85, 3) := by decide +kernel
theorem dL_count_7 : decode cL_count 7 = .ok (.i2l, 1) := by decide +kernel
theorem dL_count_8 : decode cL_count 8 = .ok (.lastore, 1) := by decide +kernel
theorem dL_count_9 : decode cL_count 9 = .ok (.goto 6, 3) := by decide +kernel
theorem dL_count_12 : decode cL_count 12 = .ok (.astore_n 3, 1) := by decide +kernel
theorem dL_count_13 : decode cL_count 13 = .ok (.iconst 1, 1) := by decide +kernel
theorem dL_count_14 : decode cL_count 14 = .ok (.ireturn, 1) := by decide +kernel
theorem dL_count_15 : decode cL_count 15 = .ok (.iconst 0, 1) := by decide +kernel
theorem dL_count_16 : decode cL_count 16 = .ok (.ireturn, 1) := by decide +kernel
theorem dL_law_0 : decode cL_law 0 = .ok (.new 8, 3) := by decide +kernel
theorem dL_law_3 : decode cL_law 3 = .ok (.dup, 1) := by decide +kernel
theorem dL_law_4 : decode cL_law 4 = .ok (.invokespecial 88, 3) := by decide +kernel
theorem dL_law_7 : decode cL_law 7 = .ok (.astore_n 1, 1) := by decide +kernel
theorem dL_law_8 : decode cL_law 8 = .ok (.new 89, 3) := by decide +kernel
theorem dL_law_11 : decode cL_law 11 = .ok (.dup, 1) := by decide +kernel
theorem dL_law_12 : decode cL_law 12 = .ok (.invokespecial 91, 3) := by decide +kernel
theorem dL_law_15 : decode cL_law 15 = .ok (.astore_n 2, 1) := by decide +kernel
theorem dL_law_16 : decode cL_law 16 = .ok (.iconst 1, 1) := by decide +kernel
theorem dL_law_17 : decode cL_law 17 = .ok (.newarray .long, 2) := by decide +kernel
theorem dL_law_19 : decode cL_law 19 = .ok (.astore_n 3, 1) := by decide +kernel
theorem dL_law_20 : decode cL_law 20 = .ok (.iconst 0, 1) := by decide +kernel
theorem dL_law_21 : decode cL_law 21 = .ok (.istore 4, 2) := by decide +kernel
theorem dL_law_23 : decode cL_law 23 = .ok (.iload 4, 2) := by decide +kernel
theorem dL_law_25 : decode cL_law 25 = .ok (.aload_n 0, 1) := by decide +kernel
theorem dL_law_26 : decode cL_law 26 = .ok (.arraylength, 1) := by decide +kernel
theorem dL_law_27 : decode cL_law 27 = .ok (.iconst 4, 1) := by decide +kernel
theorem dL_law_28 : decode cL_law 28 = .ok (.isub, 1) := by decide +kernel
theorem dL_law_29 : decode cL_law 29 = .ok (.if_icmp .gt 1561, 3) := by decide +kernel
theorem dL_law_32 : decode cL_law 32 = .ok (.aload_n 0, 1) := by decide +kernel
theorem dL_law_33 : decode cL_law 33 = .ok (.iload 4, 2) := by decide +kernel
theorem dL_law_35 : decode cL_law 35 = .ok (.iaload, 1) := by decide +kernel
theorem dL_law_36 : decode cL_law 36 = .ok (.bipush 31, 2) := by decide +kernel
theorem dL_law_38 : decode cL_law 38 = .ok (.iand, 1) := by decide +kernel
theorem dL_law_39 : decode cL_law 39 = .ok (.tableswitch 1545 0 26 #[121, 189, 285, 353, 366, 422, 478, 558, 626, 670, 726, 782, 795, 808, 852, 908, 964, 1008, 1076, 1144, 1200, 1255, 1311, 1367, 1434, 1490, 1531], 121) := by decide +kernel
theorem dL_law_160 : decode cL_law 160 = .ok (.aload_n 1, 1) := by decide +kernel
theorem dL_law_161 : decode cL_law 161 = .ok (.aload_n 0, 1) := by decide +kernel
theorem dL_law_162 : decode cL_law 162 = .ok (.iload 4, 2) := by decide +kernel
theorem dL_law_164 : decode cL_law 164 = .ok (.iconst 1, 1) := by decide +kernel
theorem dL_law_165 : decode cL_law 165 = .ok (.iadd, 1) := by decide +kernel
theorem dL_law_166 : decode cL_law 166 = .ok (.iaload, 1) := by decide +kernel
theorem dL_law_167 : decode cL_law 167 = .ok (.aload_n 0, 1) := by decide +kernel
theorem dL_law_168 : decode cL_law 168 = .ok (.iload 4, 2) := by decide +kernel
theorem dL_law_170 : decode cL_law 170 = .ok (.iconst 2, 1) := by decide +kernel
theorem dL_law_171 : decode cL_law 171 = .ok (.iadd, 1) := by decide +kernel
theorem dL_law_172 : decode cL_law 172 = .ok (.iaload, 1) := by decide +kernel
theorem dL_law_173 : decode cL_law 173 = .ok (.aload_n 3, 1) := by decide +kernel
theorem dL_law_174 : decode cL_law 174 = .ok (.invokestatic 92, 3) := by decide +kernel
theorem dL_law_177 : decode cL_law 177 = .ok (.istore 5, 2) := by decide +kernel
theorem dL_law_179 : decode cL_law 179 = .ok (.aload_n 2, 1) := by decide +kernel
theorem dL_law_180 : decode cL_law 180 = .ok (.aload_n 0, 1) := by decide +kernel
theorem dL_law_181 : decode cL_law 181 = .ok (.iload 4, 2) := by decide +kernel
theorem dL_law_183 : decode cL_law 183 = .ok (.iconst 1, 1) := by decide +kernel
theorem dL_law_184 : decode cL_law 184 = .ok (.iadd, 1) := by decide +kernel
theorem dL_law_185 : decode cL_law 185 = .ok (.iaload, 1) := by decide +kernel
theorem dL_law_186 : decode cL_law 186 = .ok (.aload_n 0, 1) := by decide +kernel
theorem dL_law_187 : decode cL_law 187 = .ok (.iload 4, 2) := by decide +kernel
theorem dL_law_189 : decode cL_law 189 = .ok (.iconst 2, 1) := by decide +kernel
theorem dL_law_190 : decode cL_law 190 = .ok (.iadd, 1) := by decide +kernel
theorem dL_law_191 : decode cL_law 191 = .ok (.iaload, 1) := by decide +kernel
theorem dL_law_192 : decode cL_law 192 = .ok (.invokevirtual 97, 3) := by decide +kernel
theorem dL_law_195 : decode cL_law 195 = .ok (.istore 6, 2) := by decide +kernel
theorem dL_law_197 : decode cL_law 197 = .ok (.aload_n 2, 1) := by decide +kernel
theorem dL_law_198 : decode cL_law 198 = .ok (.invokevirtual 98, 3) := by decide +kernel
theorem dL_law_201 : decode cL_law 201 = .ok (.iload 5, 2) := by decide +kernel
theorem dL_law_203 : decode cL_law 203 = .ok (.if_icmp .eq 5, 3) := by decide +kernel
theorem dL_law_206 : decode cL_law 206 = .ok (.iconst 0, 1) := by decide +kernel
theorem dL_law_207 : decode cL_law 207 = .ok (.ireturn, 1) := by decide +kernel
theorem dL_law_208 : decode cL_law 208 = .ok (.iload 5, 2) := by decide +kernel
theorem dL_law_210 : decode cL_law 210 = .ok (.ifCond .ne 15, 3) := by decide +kernel
theorem dL_law_213 : decode cL_law 213 = .ok (.aload_n 3, 1) := by decide +kernel
theorem dL_law_214 : decode cL_law 214 = .ok (.iconst 0, 1) := by decide +kernel
theorem dL_law_215 : decode cL_law 215 = .ok (.laload, 1) := by decide +kernel
theorem dL_law_216 : decode cL_law 216 = .ok (.iload 6, 2) := by decide +kernel
theorem dL_law_218 : decode cL_law 218 = .ok (.i2l, 1) := by decide +kernel
theorem dL_law_219 : decode cL_law 219 = .ok (.lcmp, 1) := by decide +kernel
theorem dL_law_220 : decode cL_law 220 = .ok (.ifCond .eq 5, 3) := by decide +kernel
theorem dL_law_223 : decode cL_law 223 = .ok (.iconst 0, 1) := by decide +kernel
theorem dL_law_224 : decode cL_law 224 = .ok (.ireturn, 1) := by decide +kernel
theorem dL_law_225 : decode cL_law 225 = .ok (.goto 1359, 3) := by decide +kernel
theorem dL_law_228 : decode cL_law 228 = .ok (.aload_n 1, 1) := by decide +kernel
theorem dL_law_229 : decode cL_law 229 = .ok (.aload_n 0, 1) := by decide +kernel
theorem dL_law_230 : decode cL_law 230 = .ok (.iload 4, 2) := by decide +kernel
theorem dL_law_232 : decode cL_law 232 = .ok (.iconst 1, 1) := by decide +kernel
theorem dL_law_233 : decode cL_law 233 = .ok (.iadd, 1) := by decide +kernel
theorem dL_law_234 : decode cL_law 234 = .ok (.iaload, 1) := by decide +kernel
theorem dL_law_235 : decode cL_law 235 = .ok (.aload_n 0, 1) := by decide +kernel
theorem dL_law_236 : decode cL_law 236 = .ok (.iload 4, 2) := by decide +kernel
theorem dL_law_238 : decode cL_law 238 = .ok (.iconst 2, 1) := by decide +kernel
theorem dL_law_239 : decode cL_law 239 = .ok (.iadd, 1) := by decide +kernel
theorem dL_law_240 : decode cL_law 240 = .ok (.iaload, 1) := by decide +kernel
theorem dL_law_241 : decode cL_law 241 = .ok (.aload_n 0, 1) := by decide +kernel
theorem dL_law_242 : decode cL_law 242 = .ok (.iload 4, 2) := by decide +kernel
