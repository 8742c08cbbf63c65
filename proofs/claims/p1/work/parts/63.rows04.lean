theorem kc_182_8 : xe_code 182 8 = some (.iload_n 1, []) := by decide +kernel
theorem kc_182_9 : xe_code 182 9 = some (.ifCond .eq 10, [19]) := by decide +kernel
theorem kc_182_12 : xe_code 182 12 = some (.aload_n 0, []) := by decide +kernel
theorem kc_182_13 : xe_code 182 13 = some (.getfield 27, [5, 5, 318]) := by decide +kernel
theorem kc_182_16 : xe_code 182 16 = some (.goto 7, [23]) := by decide +kernel
theorem kc_182_19 : xe_code 182 19 = some (.aload_n 0, []) := by decide +kernel
theorem kc_182_20 : xe_code 182 20 = some (.getfield 24, [5, 4, 317]) := by decide +kernel
theorem kc_182_23 : xe_code 182 23 = some (.astore 5, []) := by decide +kernel
theorem kc_182_25 : xe_code 182 25 = some (.aload 5, []) := by decide +kernel
theorem kc_182_27 : xe_code 182 27 = some (.iload_n 2, []) := by decide +kernel
theorem kc_182_28 : xe_code 182 28 = some (.iload_n 3, []) := by decide +kernel
theorem kc_182_29 : xe_code 182 29 = some (.ifCond .eq 7, [36]) := by decide +kernel
theorem kc_182_32 : xe_code 182 32 = some (.iconst 1, []) := by decide +kernel
theorem kc_182_33 : xe_code 182 33 = some (.goto 4, [37]) := by decide +kernel
theorem kc_182_36 : xe_code 182 36 = some (.iconst 2, []) := by decide +kernel
theorem kc_182_37 : xe_code 182 37 = some (.iastore, []) := by decide +kernel
theorem kc_182_38 : xe_code 182 38 = some (.iload_n 3, []) := by decide +kernel
theorem kc_182_39 : xe_code 182 39 = some (.ifCond .eq 11, [50]) := by decide +kernel
theorem kc_182_42 : xe_code 182 42 = some (.aload_n 0, []) := by decide +kernel
theorem kc_182_43 : xe_code 182 43 = some (.getfield 30, [5, 6, 319]) := by decide +kernel
theorem kc_182_46 : xe_code 182 46 = some (.iload_n 2, []) := by decide +kernel
theorem kc_182_47 : xe_code 182 47 = some (.iload 4, []) := by decide +kernel
theorem kc_182_49 : xe_code 182 49 = some (.iastore, []) := by decide +kernel
theorem kc_182_50 : xe_code 182 50 = some (.return_, []) := by decide +kernel
theorem kc_183_0 : xe_code 183 0 = some (.iload_n 1, []) := by decide +kernel
theorem kc_183_1 : xe_code 183 1 = some (.invokestatic 171, [118, 1, 529, 0]) := by decide +kernel
theorem kc_183_4 : xe_code 183 4 = some (.ifCond .eq 12, [16]) := by decide +kernel
theorem kc_183_7 : xe_code 183 7 = some (.iload_n 2, []) := by decide +kernel
theorem kc_183_8 : xe_code 183 8 = some (.ifCond .eq 15, [23]) := by decide +kernel
theorem kc_183_11 : xe_code 183 11 = some (.iload_n 2, []) := by decide +kernel
theorem kc_183_12 : xe_code 183 12 = some (.iconst 1, []) := by decide +kernel
theorem kc_183_13 : xe_code 183 13 = some (.if_icmp .eq 10, [23]) := by decide +kernel
theorem kc_183_16 : xe_code 183 16 = some (.aload_n 0, []) := by decide +kernel
theorem kc_183_17 : xe_code 183 17 = some (.bipush (-2), []) := by decide +kernel
theorem kc_183_19 : xe_code 183 19 = some (.invokevirtual 72, [91, 1, 407, 0]) := by decide +kernel
theorem kc_183_22 : xe_code 183 22 = some (.ireturn, []) := by decide +kernel
theorem kc_183_23 : xe_code 183 23 = some (.aload_n 0, []) := by decide +kernel
theorem kc_183_24 : xe_code 183 24 = some (.getfield 10, [0, 0, 369]) := by decide +kernel
theorem kc_183_27 : xe_code 183 27 = some (.aload_n 0, []) := by decide +kernel
theorem kc_183_28 : xe_code 183 28 = some (.getfield 28, [0, 2, 371]) := by decide +kernel
theorem kc_183_31 : xe_code 183 31 = some (.invokevirtual 207, [146, 0, 648, 3]) := by decide +kernel
theorem kc_183_34 : xe_code 183 34 = some (.iload_n 1, []) := by decide +kernel
theorem kc_183_35 : xe_code 183 35 = some (.invokevirtual 282, [184, 2, 825, 4]) := by decide +kernel
theorem kc_183_38 : xe_code 183 38 = some (.ifCond .ne 6, [44]) := by decide +kernel
theorem kc_183_41 : xe_code 183 41 = some (.bipush (-9), []) := by decide +kernel
theorem kc_183_43 : xe_code 183 43 = some (.ireturn, []) := by decide +kernel
theorem kc_183_44 : xe_code 183 44 = some (.aload_n 0, []) := by decide +kernel
theorem kc_183_45 : xe_code 183 45 = some (.getfield 49, [0, 5, 374]) := by decide +kernel
theorem kc_183_48 : xe_code 183 48 = some (.iload_n 1, []) := by decide +kernel
theorem kc_183_49 : xe_code 183 49 = some (.aload_n 0, []) := by decide +kernel
theorem kc_183_50 : xe_code 183 50 = some (.getfield 148, [0, 9, 378]) := by decide +kernel
theorem kc_183_53 : xe_code 183 53 = some (.invokevirtual 285, [185, 2, 829, 5]) := by decide +kernel
theorem kc_183_56 : xe_code 183 56 = some (.istore_n 3, []) := by decide +kernel
theorem kc_183_57 : xe_code 183 57 = some (.aload_n 0, []) := by decide +kernel
theorem kc_183_58 : xe_code 183 58 = some (.getfield 49, [0, 5, 374]) := by decide +kernel
theorem kc_183_61 : xe_code 183 61 = some (.iload_n 1, []) := by decide +kernel
theorem kc_183_62 : xe_code 183 62 = some (.iload_n 3, []) := by decide +kernel
theorem kc_183_63 : xe_code 183 63 = some (.invokevirtual 288, [186, 2, 833, 5]) := by decide +kernel
theorem kc_183_66 : xe_code 183 66 = some (.istore 4, []) := by decide +kernel
theorem kc_183_68 : xe_code 183 68 = some (.iload 4, []) := by decide +kernel
theorem kc_183_70 : xe_code 183 70 = some (.bipush (-9), []) := by decide +kernel
theorem kc_183_72 : xe_code 183 72 = some (.if_icmp .ne 6, [78]) := by decide +kernel
theorem kc_183_75 : xe_code 183 75 = some (.bipush (-9), []) := by decide +kernel
theorem kc_183_77 : xe_code 183 77 = some (.ireturn, []) := by decide +kernel
theorem kc_183_78 : xe_code 183 78 = some (.iload_n 2, []) := by decide +kernel
theorem kc_183_79 : xe_code 183 79 = some (.ifCond .ne 17, [96]) := by decide +kernel
theorem kc_183_82 : xe_code 183 82 = some (.iload_n 3, []) := by decide +kernel
theorem kc_183_83 : xe_code 183 83 = some (.aload_n 0, []) := by decide +kernel
theorem kc_183_84 : xe_code 183 84 = some (.getfield 49, [0, 5, 374]) := by decide +kernel
theorem kc_183_87 : xe_code 183 87 = some (.iload 4, []) := by decide +kernel
theorem kc_183_89 : xe_code 183 89 = some (.invokevirtual 291, [187, 1, 837, 5]) := by decide +kernel
theorem kc_183_92 : xe_code 183 92 = some (.iadd, []) := by decide +kernel
theorem kc_183_93 : xe_code 183 93 = some (.goto 12, [105]) := by decide +kernel
theorem kc_183_96 : xe_code 183 96 = some (.aload_n 0, []) := by decide +kernel
theorem kc_183_97 : xe_code 183 97 = some (.getfield 49, [0, 5, 374]) := by decide +kernel
theorem kc_183_100 : xe_code 183 100 = some (.iload 4, []) := by decide +kernel
theorem kc_183_102 : xe_code 183 102 = some (.invokevirtual 294, [188, 1, 841, 5]) := by decide +kernel
theorem kc_183_105 : xe_code 183 105 = some (.ireturn, []) := by decide +kernel
theorem kc_184_0 : xe_code 184 0 = some (.iconst 0, []) := by decide +kernel
theorem kc_184_1 : xe_code 184 1 = some (.istore_n 3, []) := by decide +kernel
theorem kc_184_2 : xe_code 184 2 = some (.iload_n 3, []) := by decide +kernel
theorem kc_184_3 : xe_code 184 3 = some (.aload_n 0, []) := by decide +kernel
theorem kc_184_4 : xe_code 184 4 = some (.getfield 79, [4, 5, 177]) := by decide +kernel
theorem kc_184_7 : xe_code 184 7 = some (.if_icmp .ge 38, [45]) := by decide +kernel
theorem kc_184_10 : xe_code 184 10 = some (.iload_n 3, []) := by decide +kernel
theorem kc_184_11 : xe_code 184 11 = some (.bipush 10, []) := by decide +kernel
theorem kc_184_13 : xe_code 184 13 = some (.if_icmp .ge 32, [45]) := by decide +kernel
theorem kc_184_16 : xe_code 184 16 = some (.iload_n 1, []) := by decide +kernel
theorem kc_184_17 : xe_code 184 17 = some (.iload_n 3, []) := by decide +kernel
theorem kc_184_18 : xe_code 184 18 = some (.ishr, []) := by decide +kernel
theorem kc_184_19 : xe_code 184 19 = some (.iconst 1, []) := by decide +kernel
theorem kc_184_20 : xe_code 184 20 = some (.iand, []) := by decide +kernel
theorem kc_184_21 : xe_code 184 21 = some (.ifCond .eq 18, [39]) := by decide +kernel
theorem kc_184_24 : xe_code 184 24 = some (.aload_n 0, []) := by decide +kernel
theorem kc_184_25 : xe_code 184 25 = some (.getfield 25, [4, 2, 174]) := by decide +kernel
theorem kc_184_28 : xe_code 184 28 = some (.iload_n 3, []) := by decide +kernel
theorem kc_184_29 : xe_code 184 29 = some (.aaload, []) := by decide +kernel
theorem kc_184_30 : xe_code 184 30 = some (.getfield 82, [1, 0, 157]) := by decide +kernel
theorem kc_184_33 : xe_code 184 33 = some (.iload_n 2, []) := by decide +kernel
theorem kc_184_34 : xe_code 184 34 = some (.if_icmp .ne 5, [39]) := by decide +kernel
theorem kc_184_37 : xe_code 184 37 = some (.iconst 1, []) := by decide +kernel
theorem kc_184_38 : xe_code 184 38 = some (.ireturn, []) := by decide +kernel
theorem kc_184_39 : xe_code 184 39 = some (.iinc 3 1, []) := by decide +kernel
theorem kc_184_42 : xe_code 184 42 = some (.goto (-40), [2]) := by decide +kernel
theorem kc_184_45 : xe_code 184 45 = some (.iconst 0, []) := by decide +kernel
theorem kc_184_46 : xe_code 184 46 = some (.ireturn, []) := by decide +kernel
theorem kc_185_0 : xe_code 185 0 = some (.iload_n 1, []) := by decide +kernel
theorem kc_185_1 : xe_code 185 1 = some (.invokestatic 43, [118, 1, 820, 0]) := by decide +kernel
theorem kc_185_4 : xe_code 185 4 = some (.ifCond .eq 18, [22]) := by decide +kernel
theorem kc_185_7 : xe_code 185 7 = some (.aload_n 0, []) := by decide +kernel
theorem kc_185_8 : xe_code 185 8 = some (.getfield 30, [5, 6, 319]) := by decide +kernel
theorem kc_185_11 : xe_code 185 11 = some (.iload_n 1, []) := by decide +kernel
theorem kc_185_12 : xe_code 185 12 = some (.iaload, []) := by decide +kernel
theorem kc_185_13 : xe_code 185 13 = some (.bipush (-9), []) := by decide +kernel
theorem kc_185_15 : xe_code 185 15 = some (.if_icmp .eq 7, [22]) := by decide +kernel
theorem kc_185_18 : xe_code 185 18 = some (.iconst 1, []) := by decide +kernel
theorem kc_185_19 : xe_code 185 19 = some (.goto 4, [23]) := by decide +kernel
theorem kc_185_22 : xe_code 185 22 = some (.iconst 0, []) := by decide +kernel
theorem kc_185_23 : xe_code 185 23 = some (.istore_n 3, []) := by decide +kernel
theorem kc_185_24 : xe_code 185 24 = some (.iload_n 3, []) := by decide +kernel
theorem kc_185_25 : xe_code 185 25 = some (.ifCond .eq 12, [37]) := by decide +kernel
theorem kc_185_28 : xe_code 185 28 = some (.aload_n 0, []) := by decide +kernel
theorem kc_185_29 : xe_code 185 29 = some (.getfield 30, [5, 6, 319]) := by decide +kernel
theorem kc_185_32 : xe_code 185 32 = some (.iload_n 1, []) := by decide +kernel
theorem kc_185_33 : xe_code 185 33 = some (.iaload, []) := by decide +kernel
theorem kc_185_34 : xe_code 185 34 = some (.goto 4, [38]) := by decide +kernel
theorem kc_185_37 : xe_code 185 37 = some (.iload_n 2, []) := by decide +kernel
theorem kc_185_38 : xe_code 185 38 = some (.bipush 24, []) := by decide +kernel
theorem kc_185_40 : xe_code 185 40 = some (.idiv, []) := by decide +kernel
theorem kc_185_41 : xe_code 185 41 = some (.ireturn, []) := by decide +kernel
theorem kc_186_0 : xe_code 186 0 = some (.bipush (-9), []) := by decide +kernel
theorem kc_186_2 : xe_code 186 2 = some (.istore_n 3, []) := by decide +kernel
theorem kc_186_3 : xe_code 186 3 = some (.bipush (-9), []) := by decide +kernel
theorem kc_186_5 : xe_code 186 5 = some (.istore 4, []) := by decide +kernel
theorem kc_186_7 : xe_code 186 7 = some (.iconst 0, []) := by decide +kernel
theorem kc_186_8 : xe_code 186 8 = some (.istore 5, []) := by decide +kernel
theorem kc_186_10 : xe_code 186 10 = some (.iload 5, []) := by decide +kernel
theorem kc_186_12 : xe_code 186 12 = some (.aload_n 0, []) := by decide +kernel
theorem kc_186_13 : xe_code 186 13 = some (.getfield 39, [5, 8, 322]) := by decide +kernel
theorem kc_186_16 : xe_code 186 16 = some (.if_icmp .ge 62, [78]) := by decide +kernel
theorem kc_186_19 : xe_code 186 19 = some (.iload 5, []) := by decide +kernel
theorem kc_186_21 : xe_code 186 21 = some (.bipush 12, []) := by decide +kernel
theorem kc_186_23 : xe_code 186 23 = some (.if_icmp .ge 55, [78]) := by decide +kernel
theorem kc_186_26 : xe_code 186 26 = some (.aload_n 0, []) := by decide +kernel
theorem kc_186_27 : xe_code 186 27 = some (.getfield 15, [5, 1, 314]) := by decide +kernel
theorem kc_186_30 : xe_code 186 30 = some (.iload 5, []) := by decide +kernel
theorem kc_186_32 : xe_code 186 32 = some (.iaload, []) := by decide +kernel
theorem kc_186_33 : xe_code 186 33 = some (.iload_n 1, []) := by decide +kernel
theorem kc_186_34 : xe_code 186 34 = some (.if_icmp .ne 38, [72]) := by decide +kernel
theorem kc_186_37 : xe_code 186 37 = some (.aload_n 0, []) := by decide +kernel
theorem kc_186_38 : xe_code 186 38 = some (.getfield 9, [5, 0, 313]) := by decide +kernel
theorem kc_186_41 : xe_code 186 41 = some (.iload 5, []) := by decide +kernel
theorem kc_186_43 : xe_code 186 43 = some (.iaload, []) := by decide +kernel
theorem kc_186_44 : xe_code 186 44 = some (.iload_n 2, []) := by decide +kernel
theorem kc_186_45 : xe_code 186 45 = some (.if_icmp .gt 27, [72]) := by decide +kernel
theorem kc_186_48 : xe_code 186 48 = some (.aload_n 0, []) := by decide +kernel
theorem kc_186_49 : xe_code 186 49 = some (.getfield 9, [5, 0, 313]) := by decide +kernel
theorem kc_186_52 : xe_code 186 52 = some (.iload 5, []) := by decide +kernel
theorem kc_186_54 : xe_code 186 54 = some (.iaload, []) := by decide +kernel
theorem kc_186_55 : xe_code 186 55 = some (.iload 4, []) := by decide +kernel
theorem kc_186_57 : xe_code 186 57 = some (.if_icmp .lt 15, [72]) := by decide +kernel
theorem kc_186_60 : xe_code 186 60 = some (.iload 5, []) := by decide +kernel
theorem kc_186_62 : xe_code 186 62 = some (.istore_n 3, []) := by decide +kernel
theorem kc_186_63 : xe_code 186 63 = some (.aload_n 0, []) := by decide +kernel
theorem kc_186_64 : xe_code 186 64 = some (.getfield 9, [5, 0, 313]) := by decide +kernel
theorem kc_186_67 : xe_code 186 67 = some (.iload 5, []) := by decide +kernel
theorem kc_186_69 : xe_code 186 69 = some (.iaload, []) := by decide +kernel
theorem kc_186_70 : xe_code 186 70 = some (.istore 4, []) := by decide +kernel
theorem kc_186_72 : xe_code 186 72 = some (.iinc 5 1, []) := by decide +kernel
theorem kc_186_75 : xe_code 186 75 = some (.goto (-65), [10]) := by decide +kernel
theorem kc_186_78 : xe_code 186 78 = some (.iload_n 3, []) := by decide +kernel
theorem kc_186_79 : xe_code 186 79 = some (.ireturn, []) := by decide +kernel
theorem kc_187_0 : xe_code 187 0 = some (.iload_n 1, []) := by decide +kernel
theorem kc_187_1 : xe_code 187 1 = some (.ifCond .lt 9, [10]) := by decide +kernel
theorem kc_187_4 : xe_code 187 4 = some (.iload_n 1, []) := by decide +kernel
theorem kc_187_5 : xe_code 187 5 = some (.bipush 12, []) := by decide +kernel
theorem kc_187_7 : xe_code 187 7 = some (.if_icmp .lt 5, [12]) := by decide +kernel
theorem kc_187_10 : xe_code 187 10 = some (.iconst 0, []) := by decide +kernel
theorem kc_187_11 : xe_code 187 11 = some (.ireturn, []) := by decide +kernel
theorem kc_187_12 : xe_code 187 12 = some (.aload_n 0, []) := by decide +kernel
theorem kc_187_13 : xe_code 187 13 = some (.getfield 47, [5, 7, 320]) := by decide +kernel
theorem kc_187_16 : xe_code 187 16 = some (.ifCond .eq 16, [32]) := by decide +kernel
theorem kc_187_19 : xe_code 187 19 = some (.aload_n 0, []) := by decide +kernel
theorem kc_187_20 : xe_code 187 20 = some (.getfield 21, [5, 3, 316]) := by decide +kernel
theorem kc_187_23 : xe_code 187 23 = some (.iload_n 1, []) := by decide +kernel
theorem kc_187_24 : xe_code 187 24 = some (.iaload, []) := by decide +kernel
theorem kc_187_25 : xe_code 187 25 = some (.iconst 1, []) := by decide +kernel
theorem kc_187_26 : xe_code 187 26 = some (.iadd, []) := by decide +kernel
theorem kc_187_27 : xe_code 187 27 = some (.iconst 2, []) := by decide +kernel
theorem kc_187_28 : xe_code 187 28 = some (.idiv, []) := by decide +kernel
theorem kc_187_29 : xe_code 187 29 = some (.goto 9, [38]) := by decide +kernel
theorem kc_187_32 : xe_code 187 32 = some (.aload_n 0, []) := by decide +kernel
theorem kc_187_33 : xe_code 187 33 = some (.getfield 21, [5, 3, 316]) := by decide +kernel
theorem kc_187_36 : xe_code 187 36 = some (.iload_n 1, []) := by decide +kernel
theorem kc_187_37 : xe_code 187 37 = some (.iaload, []) := by decide +kernel
theorem kc_187_38 : xe_code 187 38 = some (.ireturn, []) := by decide +kernel
theorem kc_188_0 : xe_code 188 0 = some (.iload_n 1, []) := by decide +kernel
theorem kc_188_1 : xe_code 188 1 = some (.ifCond .lt 9, [10]) := by decide +kernel
theorem kc_188_4 : xe_code 188 4 = some (.iload_n 1, []) := by decide +kernel
theorem kc_188_5 : xe_code 188 5 = some (.bipush 12, []) := by decide +kernel
theorem kc_188_7 : xe_code 188 7 = some (.if_icmp .lt 8, [15]) := by decide +kernel
theorem kc_188_10 : xe_code 188 10 = some (.bipush (-9), []) := by decide +kernel
theorem kc_188_12 : xe_code 188 12 = some (.goto 9, [21]) := by decide +kernel
theorem kc_188_15 : xe_code 188 15 = some (.aload_n 0, []) := by decide +kernel
theorem kc_188_16 : xe_code 188 16 = some (.getfield 18, [5, 2, 315]) := by decide +kernel
theorem kc_188_19 : xe_code 188 19 = some (.iload_n 1, []) := by decide +kernel
theorem kc_188_20 : xe_code 188 20 = some (.iaload, []) := by decide +kernel
theorem kc_188_21 : xe_code 188 21 = some (.ireturn, []) := by decide +kernel
theorem kc_189_0 : xe_code 189 0 = some (.iload_n 1, []) := by decide +kernel
theorem kc_189_1 : xe_code 189 1 = some (.invokestatic 171, [118, 1, 529, 0]) := by decide +kernel
theorem kc_189_4 : xe_code 189 4 = some (.ifCond .ne 10, [14]) := by decide +kernel
theorem kc_189_7 : xe_code 189 7 = some (.aload_n 0, []) := by decide +kernel
theorem kc_189_8 : xe_code 189 8 = some (.bipush (-2), []) := by decide +kernel
theorem kc_189_10 : xe_code 189 10 = some (.invokevirtual 72, [91, 1, 407, 0]) := by decide +kernel
theorem kc_189_13 : xe_code 189 13 = some (.ireturn, []) := by decide +kernel
theorem kc_189_14 : xe_code 189 14 = some (.aload_n 0, []) := by decide +kernel
theorem kc_189_15 : xe_code 189 15 = some (.getfield 49, [0, 5, 374]) := by decide +kernel
theorem kc_189_18 : xe_code 189 18 = some (.iload_n 1, []) := by decide +kernel
theorem kc_189_19 : xe_code 189 19 = some (.invokevirtual 297, [190, 1, 849, 5]) := by decide +kernel
theorem kc_189_22 : xe_code 189 22 = some (.ifCond .eq 7, [29]) := by decide +kernel
theorem kc_189_25 : xe_code 189 25 = some (.iconst 1, []) := by decide +kernel
theorem kc_189_26 : xe_code 189 26 = some (.goto 4, [30]) := by decide +kernel
theorem kc_189_29 : xe_code 189 29 = some (.iconst 0, []) := by decide +kernel
theorem kc_189_30 : xe_code 189 30 = some (.ireturn, []) := by decide +kernel
theorem kc_190_0 : xe_code 190 0 = some (.iload_n 1, []) := by decide +kernel
theorem kc_190_1 : xe_code 190 1 = some (.invokestatic 43, [118, 1, 820, 0]) := by decide +kernel
theorem kc_190_4 : xe_code 190 4 = some (.ifCond .eq 40, [44]) := by decide +kernel
theorem kc_190_7 : xe_code 190 7 = some (.aload_n 0, []) := by decide +kernel
theorem kc_190_8 : xe_code 190 8 = some (.getfield 24, [5, 4, 317]) := by decide +kernel
theorem kc_190_11 : xe_code 190 11 = some (.iload_n 1, []) := by decide +kernel
theorem kc_190_12 : xe_code 190 12 = some (.iaload, []) := by decide +kernel
theorem kc_190_13 : xe_code 190 13 = some (.ifCond .eq 31, [44]) := by decide +kernel
theorem kc_190_16 : xe_code 190 16 = some (.aload_n 0, []) := by decide +kernel
theorem kc_190_17 : xe_code 190 17 = some (.getfield 27, [5, 5, 318]) := by decide +kernel
theorem kc_190_20 : xe_code 190 20 = some (.iload_n 1, []) := by decide +kernel
theorem kc_190_21 : xe_code 190 21 = some (.iaload, []) := by decide +kernel
theorem kc_190_22 : xe_code 190 22 = some (.ifCond .eq 22, [44]) := by decide +kernel
theorem kc_190_25 : xe_code 190 25 = some (.aload_n 0, []) := by decide +kernel
theorem kc_190_26 : xe_code 190 26 = some (.getfield 24, [5, 4, 317]) := by decide +kernel
theorem kc_190_29 : xe_code 190 29 = some (.iload_n 1, []) := by decide +kernel
theorem kc_190_30 : xe_code 190 30 = some (.iaload, []) := by decide +kernel
theorem kc_190_31 : xe_code 190 31 = some (.aload_n 0, []) := by decide +kernel
theorem kc_190_32 : xe_code 190 32 = some (.getfield 27, [5, 5, 318]) := by decide +kernel
theorem kc_190_35 : xe_code 190 35 = some (.iload_n 1, []) := by decide +kernel
theorem kc_190_36 : xe_code 190 36 = some (.iaload, []) := by decide +kernel
theorem kc_190_37 : xe_code 190 37 = some (.if_icmp .eq 7, [44]) := by decide +kernel
theorem kc_190_40 : xe_code 190 40 = some (.iconst 1, []) := by decide +kernel
theorem kc_190_41 : xe_code 190 41 = some (.goto 4, [45]) := by decide +kernel
theorem kc_190_44 : xe_code 190 44 = some (.iconst 0, []) := by decide +kernel
theorem kc_190_45 : xe_code 190 45 = some (.ireturn, []) := by decide +kernel
theorem kc_191_0 : xe_code 191 0 = some (.iload_n 1, []) := by decide +kernel
theorem kc_191_1 : xe_code 191 1 = some (.tableswitch 132 0 9 #[55, 60, 68, 76, 84, 95, 103, 111, 116, 124], [133, 56, 61, 69, 77, 85, 96, 104, 112, 117, 125]) := by decide +kernel
theorem kc_191_56 : xe_code 191 56 = some (.aload_n 0, []) := by decide +kernel
theorem kc_191_57 : xe_code 191 57 = some (.getfield 148, [0, 9, 378]) := by decide +kernel
theorem kc_191_60 : xe_code 191 60 = some (.ireturn, []) := by decide +kernel
theorem kc_191_61 : xe_code 191 61 = some (.aload_n 0, []) := by decide +kernel
theorem kc_191_62 : xe_code 191 62 = some (.getfield 10, [0, 0, 369]) := by decide +kernel
theorem kc_191_65 : xe_code 191 65 = some (.invokevirtual 300, [192, 0, 857, 4]) := by decide +kernel
theorem kc_191_68 : xe_code 191 68 = some (.ireturn, []) := by decide +kernel
theorem kc_191_69 : xe_code 191 69 = some (.aload_n 0, []) := by decide +kernel
theorem kc_191_70 : xe_code 191 70 = some (.getfield 28, [0, 2, 371]) := by decide +kernel
theorem kc_191_73 : xe_code 191 73 = some (.getfield 164, [3, 8, 241]) := by decide +kernel
theorem kc_191_76 : xe_code 191 76 = some (.ireturn, []) := by decide +kernel
theorem kc_191_77 : xe_code 191 77 = some (.aload_n 0, []) := by decide +kernel
theorem kc_191_78 : xe_code 191 78 = some (.getfield 10, [0, 0, 369]) := by decide +kernel
theorem kc_191_81 : xe_code 191 81 = some (.getfield 178, [4, 5, 178]) := by decide +kernel
theorem kc_191_84 : xe_code 191 84 = some (.ireturn, []) := by decide +kernel
theorem kc_191_85 : xe_code 191 85 = some (.aload_n 0, []) := by decide +kernel
theorem kc_191_86 : xe_code 191 86 = some (.getfield 19, [0, 1, 370]) := by decide +kernel
theorem kc_191_89 : xe_code 191 89 = some (.getfield 184, [9, 2, 210]) := by decide +kernel
theorem kc_191_92 : xe_code 191 92 = some (.invokestatic 303, [4, 1, 861, 0]) := by decide +kernel
theorem kc_191_95 : xe_code 191 95 = some (.ireturn, []) := by decide +kernel
theorem kc_191_96 : xe_code 191 96 = some (.aload_n 0, []) := by decide +kernel
theorem kc_191_97 : xe_code 191 97 = some (.getfield 35, [0, 3, 372]) := by decide +kernel
theorem kc_191_100 : xe_code 191 100 = some (.getfield 227, [6, 4, 274]) := by decide +kernel
theorem kc_191_103 : xe_code 191 103 = some (.ireturn, []) := by decide +kernel
theorem kc_191_104 : xe_code 191 104 = some (.aload_n 0, []) := by decide +kernel
theorem kc_191_105 : xe_code 191 105 = some (.getfield 35, [0, 3, 372]) := by decide +kernel
theorem kc_191_108 : xe_code 191 108 = some (.invokevirtual 307, [193, 0, 862, 6]) := by decide +kernel
theorem kc_191_111 : xe_code 191 111 = some (.ireturn, []) := by decide +kernel
theorem kc_191_112 : xe_code 191 112 = some (.aload_n 0, []) := by decide +kernel
theorem kc_191_113 : xe_code 191 113 = some (.getfield 243, [0, 8, 377]) := by decide +kernel
theorem kc_191_116 : xe_code 191 116 = some (.ireturn, []) := by decide +kernel
theorem kc_191_117 : xe_code 191 117 = some (.aload_n 0, []) := by decide +kernel
theorem kc_191_118 : xe_code 191 118 = some (.getfield 49, [0, 5, 374]) := by decide +kernel
theorem kc_191_121 : xe_code 191 121 = some (.getfield 273, [5, 8, 323]) := by decide +kernel
theorem kc_191_124 : xe_code 191 124 = some (.ireturn, []) := by decide +kernel
theorem kc_191_125 : xe_code 191 125 = some (.aload_n 0, []) := by decide +kernel
theorem kc_191_126 : xe_code 191 126 = some (.getfield 42, [0, 4, 373]) := by decide +kernel
theorem kc_191_129 : xe_code 191 129 = some (.invokevirtual 267, [174, 0, 783, 2]) := by decide +kernel
theorem kc_191_132 : xe_code 191 132 = some (.ireturn, []) := by decide +kernel
theorem kc_191_133 : xe_code 191 133 = some (.iload_n 1, []) := by decide +kernel
theorem kc_191_134 : xe_code 191 134 = some (.bipush 11, []) := by decide +kernel
theorem kc_191_136 : xe_code 191 136 = some (.if_icmp .lt 21, [157]) := by decide +kernel
theorem kc_191_139 : xe_code 191 139 = some (.iload_n 1, []) := by decide +kernel
theorem kc_191_140 : xe_code 191 140 = some (.bipush 16, []) := by decide +kernel
theorem kc_191_142 : xe_code 191 142 = some (.if_icmp .gt 15, [157]) := by decide +kernel
theorem kc_191_145 : xe_code 191 145 = some (.aload_n 0, []) := by decide +kernel
theorem kc_191_146 : xe_code 191 146 = some (.getfield 59, [0, 7, 376]) := by decide +kernel
theorem kc_191_149 : xe_code 191 149 = some (.iload_n 1, []) := by decide +kernel
theorem kc_191_150 : xe_code 191 150 = some (.bipush 10, []) := by decide +kernel
theorem kc_191_152 : xe_code 191 152 = some (.isub, []) := by decide +kernel
theorem kc_191_153 : xe_code 191 153 = some (.iaload, []) := by decide +kernel
theorem kc_191_154 : xe_code 191 154 = some (.goto 5, [159]) := by decide +kernel
theorem kc_191_157 : xe_code 191 157 = some (.bipush (-9), []) := by decide +kernel
theorem kc_191_159 : xe_code 191 159 = some (.ireturn, []) := by decide +kernel
theorem kc_192_0 : xe_code 192 0 = some (.iconst 0, []) := by decide +kernel
theorem kc_192_1 : xe_code 192 1 = some (.istore_n 1, []) := by decide +kernel
theorem kc_192_2 : xe_code 192 2 = some (.iconst 0, []) := by decide +kernel
theorem kc_192_3 : xe_code 192 3 = some (.istore_n 2, []) := by decide +kernel
theorem kc_192_4 : xe_code 192 4 = some (.iload_n 2, []) := by decide +kernel
theorem kc_192_5 : xe_code 192 5 = some (.bipush 12, []) := by decide +kernel
theorem kc_192_7 : xe_code 192 7 = some (.if_icmp .ge 29, [36]) := by decide +kernel
theorem kc_192_10 : xe_code 192 10 = some (.iload_n 1, []) := by decide +kernel
theorem kc_192_11 : xe_code 192 11 = some (.aload_n 0, []) := by decide +kernel
theorem kc_192_12 : xe_code 192 12 = some (.getfield 19, [4, 1, 172]) := by decide +kernel
theorem kc_192_15 : xe_code 192 15 = some (.iload_n 2, []) := by decide +kernel
theorem kc_192_16 : xe_code 192 16 = some (.aaload, []) := by decide +kernel
theorem kc_192_17 : xe_code 192 17 = some (.invokevirtual 65, [106, 0, 493, 11]) := by decide +kernel
theorem kc_192_20 : xe_code 192 20 = some (.ifCond .eq 7, [27]) := by decide +kernel
theorem kc_192_23 : xe_code 192 23 = some (.iconst 1, []) := by decide +kernel
theorem kc_192_24 : xe_code 192 24 = some (.goto 4, [28]) := by decide +kernel
theorem kc_192_27 : xe_code 192 27 = some (.iconst 0, []) := by decide +kernel
theorem kc_192_28 : xe_code 192 28 = some (.iadd, []) := by decide +kernel
theorem kc_192_29 : xe_code 192 29 = some (.istore_n 1, []) := by decide +kernel
theorem kc_192_30 : xe_code 192 30 = some (.iinc 2 1, []) := by decide +kernel
theorem kc_192_33 : xe_code 192 33 = some (.goto (-29), [4]) := by decide +kernel
theorem kc_192_36 : xe_code 192 36 = some (.iload_n 1, []) := by decide +kernel
theorem kc_192_37 : xe_code 192 37 = some (.ireturn, []) := by decide +kernel
theorem kc_193_0 : xe_code 193 0 = some (.iconst 0, []) := by decide +kernel
theorem kc_193_1 : xe_code 193 1 = some (.istore_n 1, []) := by decide +kernel
theorem kc_193_2 : xe_code 193 2 = some (.iconst 0, []) := by decide +kernel
theorem kc_193_3 : xe_code 193 3 = some (.istore_n 2, []) := by decide +kernel
theorem kc_193_4 : xe_code 193 4 = some (.iload_n 2, []) := by decide +kernel
theorem kc_193_5 : xe_code 193 5 = some (.aload_n 0, []) := by decide +kernel
theorem kc_193_6 : xe_code 193 6 = some (.getfield 25, [6, 4, 273]) := by decide +kernel
theorem kc_193_9 : xe_code 193 9 = some (.if_icmp .ge 32, [41]) := by decide +kernel
theorem kc_193_12 : xe_code 193 12 = some (.iload_n 2, []) := by decide +kernel
theorem kc_193_13 : xe_code 193 13 = some (.bipush 8, []) := by decide +kernel
theorem kc_193_15 : xe_code 193 15 = some (.if_icmp .ge 26, [41]) := by decide +kernel
theorem kc_193_18 : xe_code 193 18 = some (.iload_n 1, []) := by decide +kernel
theorem kc_193_19 : xe_code 193 19 = some (.aload_n 0, []) := by decide +kernel
theorem kc_193_20 : xe_code 193 20 = some (.getfield 22, [6, 3, 271]) := by decide +kernel
theorem kc_193_23 : xe_code 193 23 = some (.iload_n 2, []) := by decide +kernel
theorem kc_193_24 : xe_code 193 24 = some (.iaload, []) := by decide +kernel
theorem kc_193_25 : xe_code 193 25 = some (.ifCond .ne 7, [32]) := by decide +kernel
theorem kc_193_28 : xe_code 193 28 = some (.iconst 0, []) := by decide +kernel
theorem kc_193_29 : xe_code 193 29 = some (.goto 4, [33]) := by decide +kernel
theorem kc_193_32 : xe_code 193 32 = some (.iconst 1, []) := by decide +kernel
theorem kc_193_33 : xe_code 193 33 = some (.iadd, []) := by decide +kernel
theorem kc_193_34 : xe_code 193 34 = some (.istore_n 1, []) := by decide +kernel
theorem kc_193_35 : xe_code 193 35 = some (.iinc 2 1, []) := by decide +kernel
theorem kc_193_38 : xe_code 193 38 = some (.goto (-34), [4]) := by decide +kernel
theorem kc_193_41 : xe_code 193 41 = some (.iload_n 1, []) := by decide +kernel
theorem kc_193_42 : xe_code 193 42 = some (.ireturn, []) := by decide +kernel
theorem kc_194_0 : xe_code 194 0 = some (.aload_n 0, []) := by decide +kernel
theorem kc_194_1 : xe_code 194 1 = some (.getfield 28, [0, 2, 371]) := by decide +kernel
theorem kc_194_4 : xe_code 194 4 = some (.iload_n 1, []) := by decide +kernel
theorem kc_194_5 : xe_code 194 5 = some (.invokevirtual 190, [139, 1, 617, 3]) := by decide +kernel
theorem kc_194_8 : xe_code 194 8 = some (.ifCond .ne 13, [21]) := by decide +kernel
theorem kc_194_14 : xe_code 194 14 = some (.dup, []) := by decide +kernel
theorem kc_194_21 : xe_code 194 21 = some (.aload_n 0, []) := by decide +kernel
theorem kc_194_22 : xe_code 194 22 = some (.getfield 28, [0, 2, 371]) := by decide +kernel
theorem kc_194_25 : xe_code 194 25 = some (.iload_n 1, []) := by decide +kernel
theorem kc_194_26 : xe_code 194 26 = some (.invokevirtual 200, [147, 1, 940, 3]) := by decide +kernel
theorem kc_194_29 : xe_code 194 29 = some (.lreturn, []) := by decide +kernel
theorem kc_196_0 : xe_code 196 0 = some (.new 8, [0, 70]) := by decide +kernel
theorem kc_196_3 : xe_code 196 3 = some (.dup, []) := by decide +kernel
theorem kc_196_4 : xe_code 196 4 = some (.invokespecial 15, [77, 0, 72, 0]) := by decide +kernel
theorem kc_196_7 : xe_code 196 7 = some (.astore_n 1, []) := by decide +kernel
theorem kc_196_8 : xe_code 196 8 = some (.new 16, [12, 941]) := by decide +kernel
theorem kc_196_11 : xe_code 196 11 = some (.dup, []) := by decide +kernel
theorem kc_196_12 : xe_code 196 12 = some (.invokespecial 18, [8, 0, 943, 12]) := by decide +kernel
theorem kc_196_15 : xe_code 196 15 = some (.astore_n 2, []) := by decide +kernel
theorem kc_196_16 : xe_code 196 16 = some (.iconst 1, []) := by decide +kernel
theorem kc_196_17 : xe_code 196 17 = some (.newarray .long, [1, 261]) := by decide +kernel
theorem kc_196_19 : xe_code 196 19 = some (.astore_n 3, []) := by decide +kernel
theorem kc_196_20 : xe_code 196 20 = some (.iconst 0, []) := by decide +kernel
theorem kc_196_21 : xe_code 196 21 = some (.istore 4, []) := by decide +kernel
theorem kc_196_23 : xe_code 196 23 = some (.iload 4, []) := by decide +kernel
theorem kc_196_25 : xe_code 196 25 = some (.aload_n 0, []) := by decide +kernel
theorem kc_196_26 : xe_code 196 26 = some (.arraylength, []) := by decide +kernel
theorem kc_196_27 : xe_code 196 27 = some (.bipush 6, []) := by decide +kernel
theorem kc_196_29 : xe_code 196 29 = some (.isub, []) := by decide +kernel
theorem kc_196_30 : xe_code 196 30 = some (.if_icmp .gt 1504, [1534]) := by decide +kernel
theorem kc_196_33 : xe_code 196 33 = some (.aload_n 0, []) := by decide +kernel
theorem kc_196_34 : xe_code 196 34 = some (.iload 4, []) := by decide +kernel
theorem kc_196_36 : xe_code 196 36 = some (.iaload, []) := by decide +kernel
theorem kc_196_37 : xe_code 196 37 = some (.bipush 63, []) := by decide +kernel
theorem kc_196_39 : xe_code 196 39 = some (.iand, []) := by decide +kernel
theorem kc_196_40 : xe_code 196 40 = some (.tableswitch 1488 0 33 #[152, 201, 250, 299, 336, 361, 438, 475, 500, 525, 550, 611, 672, 725, 750, 805, 842, 855, 880, 893, 930, 983, 996, 1009, 1082, 1119, 1180, 1193, 1218, 1279, 1320, 1401, 1438, 1463], [1528, 192, 241, 290, 339, 376, 401, 478, 515, 540, 565, 590, 651, 712, 765, 790, 845, 882, 895, 920, 933, 970, 1023, 1036, 1049, 1122, 1159, 1220, 1233, 1258, 1319, 1360, 1441, 1478, 1503]) := by decide +kernel
theorem kc_196_192 : xe_code 196 192 = some (.aload_n 1, []) := by decide +kernel
theorem kc_196_193 : xe_code 196 193 = some (.aload_n 0, []) := by decide +kernel
theorem kc_196_194 : xe_code 196 194 = some (.iload 4, []) := by decide +kernel
theorem kc_196_196 : xe_code 196 196 = some (.iconst 1, []) := by decide +kernel
theorem kc_196_197 : xe_code 196 197 = some (.iadd, []) := by decide +kernel
theorem kc_196_198 : xe_code 196 198 = some (.iaload, []) := by decide +kernel
theorem kc_196_199 : xe_code 196 199 = some (.aload_n 0, []) := by decide +kernel
theorem kc_196_200 : xe_code 196 200 = some (.iload 4, []) := by decide +kernel
theorem kc_196_202 : xe_code 196 202 = some (.iconst 2, []) := by decide +kernel
theorem kc_196_203 : xe_code 196 203 = some (.iadd, []) := by decide +kernel
theorem kc_196_204 : xe_code 196 204 = some (.iaload, []) := by decide +kernel
theorem kc_196_205 : xe_code 196 205 = some (.aload_n 0, []) := by decide +kernel
theorem kc_196_206 : xe_code 196 206 = some (.iload 4, []) := by decide +kernel
theorem kc_196_208 : xe_code 196 208 = some (.iconst 3, []) := by decide +kernel
theorem kc_196_209 : xe_code 196 209 = some (.iadd, []) := by decide +kernel
theorem kc_196_210 : xe_code 196 210 = some (.iaload, []) := by decide +kernel
theorem kc_196_211 : xe_code 196 211 = some (.invokevirtual 19, [89, 3, 400, 0]) := by decide +kernel
theorem kc_196_214 : xe_code 196 214 = some (.aload_n 2, []) := by decide +kernel
theorem kc_196_215 : xe_code 196 215 = some (.aload_n 0, []) := by decide +kernel
theorem kc_196_216 : xe_code 196 216 = some (.iload 4, []) := by decide +kernel
theorem kc_196_218 : xe_code 196 218 = some (.iconst 1, []) := by decide +kernel
theorem kc_196_219 : xe_code 196 219 = some (.iadd, []) := by decide +kernel
theorem kc_196_220 : xe_code 196 220 = some (.iaload, []) := by decide +kernel
theorem kc_196_221 : xe_code 196 221 = some (.aload_n 0, []) := by decide +kernel
theorem kc_196_222 : xe_code 196 222 = some (.iload 4, []) := by decide +kernel
theorem kc_196_224 : xe_code 196 224 = some (.iconst 2, []) := by decide +kernel
theorem kc_196_225 : xe_code 196 225 = some (.iadd, []) := by decide +kernel
theorem kc_196_226 : xe_code 196 226 = some (.iaload, []) := by decide +kernel
theorem kc_196_227 : xe_code 196 227 = some (.aload_n 0, []) := by decide +kernel
theorem kc_196_228 : xe_code 196 228 = some (.iload 4, []) := by decide +kernel
theorem kc_196_230 : xe_code 196 230 = some (.iconst 3, []) := by decide +kernel
theorem kc_196_231 : xe_code 196 231 = some (.iadd, []) := by decide +kernel
theorem kc_196_232 : xe_code 196 232 = some (.iaload, []) := by decide +kernel
theorem kc_196_233 : xe_code 196 233 = some (.invokevirtual 23, [10, 3, 1145, 12]) := by decide +kernel
theorem kc_196_236 : xe_code 196 236 = some (.if_icmp .eq 1292, [1528]) := by decide +kernel
theorem kc_196_239 : xe_code 196 239 = some (.iconst 0, []) := by decide +kernel
theorem kc_196_240 : xe_code 196 240 = some (.ireturn, []) := by decide +kernel
theorem kc_196_241 : xe_code 196 241 = some (.aload_n 1, []) := by decide +kernel
theorem kc_196_242 : xe_code 196 242 = some (.aload_n 0, []) := by decide +kernel
theorem kc_196_243 : xe_code 196 243 = some (.iload 4, []) := by decide +kernel
theorem kc_196_245 : xe_code 196 245 = some (.iconst 1, []) := by decide +kernel
theorem kc_196_246 : xe_code 196 246 = some (.iadd, []) := by decide +kernel
theorem kc_196_247 : xe_code 196 247 = some (.iaload, []) := by decide +kernel
theorem kc_196_248 : xe_code 196 248 = some (.aload_n 0, []) := by decide +kernel
theorem kc_196_249 : xe_code 196 249 = some (.iload 4, []) := by decide +kernel
theorem kc_196_251 : xe_code 196 251 = some (.iconst 2, []) := by decide +kernel
theorem kc_196_252 : xe_code 196 252 = some (.iadd, []) := by decide +kernel
theorem kc_196_253 : xe_code 196 253 = some (.iaload, []) := by decide +kernel
theorem kc_196_254 : xe_code 196 254 = some (.aload_n 0, []) := by decide +kernel
theorem kc_196_255 : xe_code 196 255 = some (.iload 4, []) := by decide +kernel
theorem kc_196_257 : xe_code 196 257 = some (.iconst 3, []) := by decide +kernel
theorem kc_196_258 : xe_code 196 258 = some (.iadd, []) := by decide +kernel
theorem kc_196_259 : xe_code 196 259 = some (.iaload, []) := by decide +kernel
theorem kc_196_260 : xe_code 196 260 = some (.invokevirtual 24, [95, 3, 428, 0]) := by decide +kernel
theorem kc_196_263 : xe_code 196 263 = some (.aload_n 2, []) := by decide +kernel
theorem kc_196_264 : xe_code 196 264 = some (.aload_n 0, []) := by decide +kernel
theorem kc_196_265 : xe_code 196 265 = some (.iload 4, []) := by decide +kernel
theorem kc_196_267 : xe_code 196 267 = some (.iconst 1, []) := by decide +kernel
theorem kc_196_268 : xe_code 196 268 = some (.iadd, []) := by decide +kernel
theorem kc_196_269 : xe_code 196 269 = some (.iaload, []) := by decide +kernel
theorem kc_196_270 : xe_code 196 270 = some (.aload_n 0, []) := by decide +kernel
theorem kc_196_271 : xe_code 196 271 = some (.iload 4, []) := by decide +kernel
theorem kc_196_273 : xe_code 196 273 = some (.iconst 2, []) := by decide +kernel
theorem kc_196_274 : xe_code 196 274 = some (.iadd, []) := by decide +kernel
theorem kc_196_275 : xe_code 196 275 = some (.iaload, []) := by decide +kernel
theorem kc_196_276 : xe_code 196 276 = some (.aload_n 0, []) := by decide +kernel
theorem kc_196_277 : xe_code 196 277 = some (.iload 4, []) := by decide +kernel
theorem kc_196_279 : xe_code 196 279 = some (.iconst 3, []) := by decide +kernel
theorem kc_196_280 : xe_code 196 280 = some (.iadd, []) := by decide +kernel
theorem kc_196_281 : xe_code 196 281 = some (.iaload, []) := by decide +kernel
theorem kc_196_282 : xe_code 196 282 = some (.invokevirtual 27, [16, 3, 1168, 12]) := by decide +kernel
theorem kc_196_285 : xe_code 196 285 = some (.if_icmp .eq 1243, [1528]) := by decide +kernel
theorem kc_196_288 : xe_code 196 288 = some (.iconst 0, []) := by decide +kernel
theorem kc_196_289 : xe_code 196 289 = some (.ireturn, []) := by decide +kernel
theorem kc_196_290 : xe_code 196 290 = some (.aload_n 1, []) := by decide +kernel
theorem kc_196_291 : xe_code 196 291 = some (.aload_n 0, []) := by decide +kernel
theorem kc_196_292 : xe_code 196 292 = some (.iload 4, []) := by decide +kernel
theorem kc_196_294 : xe_code 196 294 = some (.iconst 1, []) := by decide +kernel
theorem kc_196_295 : xe_code 196 295 = some (.iadd, []) := by decide +kernel
theorem kc_196_296 : xe_code 196 296 = some (.iaload, []) := by decide +kernel
theorem kc_196_297 : xe_code 196 297 = some (.aload_n 0, []) := by decide +kernel
theorem kc_196_298 : xe_code 196 298 = some (.iload 4, []) := by decide +kernel
theorem kc_196_300 : xe_code 196 300 = some (.iconst 2, []) := by decide +kernel
theorem kc_196_301 : xe_code 196 301 = some (.iadd, []) := by decide +kernel
theorem kc_196_302 : xe_code 196 302 = some (.iaload, []) := by decide +kernel
theorem kc_196_303 : xe_code 196 303 = some (.aload_n 0, []) := by decide +kernel
theorem kc_196_304 : xe_code 196 304 = some (.iload 4, []) := by decide +kernel
theorem kc_196_306 : xe_code 196 306 = some (.iconst 3, []) := by decide +kernel
theorem kc_196_307 : xe_code 196 307 = some (.iadd, []) := by decide +kernel
theorem kc_196_308 : xe_code 196 308 = some (.iaload, []) := by decide +kernel
theorem kc_196_309 : xe_code 196 309 = some (.invokevirtual 28, [96, 3, 432, 0]) := by decide +kernel
theorem kc_196_312 : xe_code 196 312 = some (.aload_n 2, []) := by decide +kernel
theorem kc_196_313 : xe_code 196 313 = some (.aload_n 0, []) := by decide +kernel
theorem kc_196_314 : xe_code 196 314 = some (.iload 4, []) := by decide +kernel
theorem kc_196_316 : xe_code 196 316 = some (.iconst 1, []) := by decide +kernel
theorem kc_196_317 : xe_code 196 317 = some (.iadd, []) := by decide +kernel
theorem kc_196_318 : xe_code 196 318 = some (.iaload, []) := by decide +kernel
theorem kc_196_319 : xe_code 196 319 = some (.aload_n 0, []) := by decide +kernel
theorem kc_196_320 : xe_code 196 320 = some (.iload 4, []) := by decide +kernel
theorem kc_196_322 : xe_code 196 322 = some (.iconst 2, []) := by decide +kernel
theorem kc_196_323 : xe_code 196 323 = some (.iadd, []) := by decide +kernel
theorem kc_196_324 : xe_code 196 324 = some (.iaload, []) := by decide +kernel
theorem kc_196_325 : xe_code 196 325 = some (.aload_n 0, []) := by decide +kernel
theorem kc_196_326 : xe_code 196 326 = some (.iload 4, []) := by decide +kernel
theorem kc_196_328 : xe_code 196 328 = some (.iconst 3, []) := by decide +kernel
theorem kc_196_329 : xe_code 196 329 = some (.iadd, []) := by decide +kernel
theorem kc_196_330 : xe_code 196 330 = some (.iaload, []) := by decide +kernel
theorem kc_196_331 : xe_code 196 331 = some (.invokevirtual 31, [17, 3, 1172, 12]) := by decide +kernel
theorem kc_196_334 : xe_code 196 334 = some (.if_icmp .eq 1194, [1528]) := by decide +kernel
theorem kc_196_337 : xe_code 196 337 = some (.iconst 0, []) := by decide +kernel
theorem kc_196_338 : xe_code 196 338 = some (.ireturn, []) := by decide +kernel
theorem kc_196_339 : xe_code 196 339 = some (.aload_n 1, []) := by decide +kernel
theorem kc_196_340 : xe_code 196 340 = some (.aload_n 0, []) := by decide +kernel
theorem kc_196_341 : xe_code 196 341 = some (.iload 4, []) := by decide +kernel
theorem kc_196_343 : xe_code 196 343 = some (.iconst 1, []) := by decide +kernel
theorem kc_196_344 : xe_code 196 344 = some (.iadd, []) := by decide +kernel
theorem kc_196_345 : xe_code 196 345 = some (.iaload, []) := by decide +kernel
theorem kc_196_346 : xe_code 196 346 = some (.aload_n 0, []) := by decide +kernel
theorem kc_196_347 : xe_code 196 347 = some (.iload 4, []) := by decide +kernel
theorem kc_196_349 : xe_code 196 349 = some (.iconst 2, []) := by decide +kernel
theorem kc_196_350 : xe_code 196 350 = some (.iadd, []) := by decide +kernel
theorem kc_196_351 : xe_code 196 351 = some (.iaload, []) := by decide +kernel
theorem kc_196_352 : xe_code 196 352 = some (.invokevirtual 32, [101, 2, 453, 0]) := by decide +kernel
theorem kc_196_355 : xe_code 196 355 = some (.aload_n 2, []) := by decide +kernel
theorem kc_196_356 : xe_code 196 356 = some (.aload_n 0, []) := by decide +kernel
theorem kc_196_357 : xe_code 196 357 = some (.iload 4, []) := by decide +kernel
theorem kc_196_359 : xe_code 196 359 = some (.iconst 1, []) := by decide +kernel
theorem kc_196_360 : xe_code 196 360 = some (.iadd, []) := by decide +kernel
theorem kc_196_361 : xe_code 196 361 = some (.iaload, []) := by decide +kernel
theorem kc_196_362 : xe_code 196 362 = some (.aload_n 0, []) := by decide +kernel
theorem kc_196_363 : xe_code 196 363 = some (.iload 4, []) := by decide +kernel
theorem kc_196_365 : xe_code 196 365 = some (.iconst 2, []) := by decide +kernel
theorem kc_196_366 : xe_code 196 366 = some (.iadd, []) := by decide +kernel
theorem kc_196_367 : xe_code 196 367 = some (.iaload, []) := by decide +kernel
theorem kc_196_368 : xe_code 196 368 = some (.invokevirtual 36, [19, 2, 1181, 12]) := by decide +kernel
theorem kc_196_371 : xe_code 196 371 = some (.if_icmp .eq 1157, [1528]) := by decide +kernel
theorem kc_196_374 : xe_code 196 374 = some (.iconst 0, []) := by decide +kernel
theorem kc_196_375 : xe_code 196 375 = some (.ireturn, []) := by decide +kernel
theorem kc_196_376 : xe_code 196 376 = some (.aload_n 1, []) := by decide +kernel
theorem kc_196_377 : xe_code 196 377 = some (.aload_n 0, []) := by decide +kernel
theorem kc_196_378 : xe_code 196 378 = some (.iload 4, []) := by decide +kernel
theorem kc_196_380 : xe_code 196 380 = some (.iconst 1, []) := by decide +kernel
theorem kc_196_381 : xe_code 196 381 = some (.iadd, []) := by decide +kernel
theorem kc_196_382 : xe_code 196 382 = some (.iaload, []) := by decide +kernel
theorem kc_196_383 : xe_code 196 383 = some (.invokevirtual 37, [102, 1, 458, 0]) := by decide +kernel
theorem kc_196_386 : xe_code 196 386 = some (.aload_n 2, []) := by decide +kernel
theorem kc_196_387 : xe_code 196 387 = some (.aload_n 0, []) := by decide +kernel
theorem kc_196_388 : xe_code 196 388 = some (.iload 4, []) := by decide +kernel
theorem kc_196_390 : xe_code 196 390 = some (.iconst 1, []) := by decide +kernel
theorem kc_196_391 : xe_code 196 391 = some (.iadd, []) := by decide +kernel
theorem kc_196_392 : xe_code 196 392 = some (.iaload, []) := by decide +kernel
theorem kc_196_393 : xe_code 196 393 = some (.invokevirtual 41, [22, 1, 1193, 12]) := by decide +kernel
theorem kc_196_396 : xe_code 196 396 = some (.if_icmp .eq 1132, [1528]) := by decide +kernel
theorem kc_196_399 : xe_code 196 399 = some (.iconst 0, []) := by decide +kernel
theorem kc_196_400 : xe_code 196 400 = some (.ireturn, []) := by decide +kernel
theorem kc_196_401 : xe_code 196 401 = some (.aload_n 1, []) := by decide +kernel
theorem kc_196_402 : xe_code 196 402 = some (.aload_n 0, []) := by decide +kernel
theorem kc_196_403 : xe_code 196 403 = some (.iload 4, []) := by decide +kernel
theorem kc_196_405 : xe_code 196 405 = some (.iconst 1, []) := by decide +kernel
theorem kc_196_406 : xe_code 196 406 = some (.iadd, []) := by decide +kernel
theorem kc_196_407 : xe_code 196 407 = some (.iaload, []) := by decide +kernel
theorem kc_196_408 : xe_code 196 408 = some (.aload_n 0, []) := by decide +kernel
theorem kc_196_409 : xe_code 196 409 = some (.iload 4, []) := by decide +kernel
theorem kc_196_411 : xe_code 196 411 = some (.iconst 2, []) := by decide +kernel
theorem kc_196_412 : xe_code 196 412 = some (.iadd, []) := by decide +kernel
theorem kc_196_413 : xe_code 196 413 = some (.iaload, []) := by decide +kernel
theorem kc_196_414 : xe_code 196 414 = some (.aload_n 0, []) := by decide +kernel
theorem kc_196_415 : xe_code 196 415 = some (.iload 4, []) := by decide +kernel
theorem kc_196_417 : xe_code 196 417 = some (.iconst 3, []) := by decide +kernel
theorem kc_196_418 : xe_code 196 418 = some (.iadd, []) := by decide +kernel
theorem kc_196_419 : xe_code 196 419 = some (.iaload, []) := by decide +kernel
theorem kc_196_420 : xe_code 196 420 = some (.aload_n 0, []) := by decide +kernel
theorem kc_196_421 : xe_code 196 421 = some (.iload 4, []) := by decide +kernel
theorem kc_196_423 : xe_code 196 423 = some (.iconst 4, []) := by decide +kernel
theorem kc_196_424 : xe_code 196 424 = some (.iadd, []) := by decide +kernel
theorem kc_196_425 : xe_code 196 425 = some (.iaload, []) := by decide +kernel
theorem kc_196_426 : xe_code 196 426 = some (.ifCond .eq 7, [433]) := by decide +kernel
theorem kc_196_429 : xe_code 196 429 = some (.iconst 1, []) := by decide +kernel
theorem kc_196_430 : xe_code 196 430 = some (.goto 4, [434]) := by decide +kernel
theorem kc_196_433 : xe_code 196 433 = some (.iconst 0, []) := by decide +kernel
theorem kc_196_434 : xe_code 196 434 = some (.invokevirtual 42, [104, 4, 468, 0]) := by decide +kernel
theorem kc_196_437 : xe_code 196 437 = some (.aload_n 2, []) := by decide +kernel
theorem kc_196_438 : xe_code 196 438 = some (.aload_n 0, []) := by decide +kernel
theorem kc_196_439 : xe_code 196 439 = some (.iload 4, []) := by decide +kernel
theorem kc_196_441 : xe_code 196 441 = some (.iconst 1, []) := by decide +kernel
theorem kc_196_442 : xe_code 196 442 = some (.iadd, []) := by decide +kernel
theorem kc_196_443 : xe_code 196 443 = some (.iaload, []) := by decide +kernel
theorem kc_196_444 : xe_code 196 444 = some (.aload_n 0, []) := by decide +kernel
theorem kc_196_445 : xe_code 196 445 = some (.iload 4, []) := by decide +kernel
theorem kc_196_447 : xe_code 196 447 = some (.iconst 2, []) := by decide +kernel
theorem kc_196_448 : xe_code 196 448 = some (.iadd, []) := by decide +kernel
theorem kc_196_449 : xe_code 196 449 = some (.iaload, []) := by decide +kernel
theorem kc_196_450 : xe_code 196 450 = some (.aload_n 0, []) := by decide +kernel
theorem kc_196_451 : xe_code 196 451 = some (.iload 4, []) := by decide +kernel
theorem kc_196_453 : xe_code 196 453 = some (.iconst 3, []) := by decide +kernel
theorem kc_196_454 : xe_code 196 454 = some (.iadd, []) := by decide +kernel
theorem kc_196_455 : xe_code 196 455 = some (.iaload, []) := by decide +kernel
theorem kc_196_456 : xe_code 196 456 = some (.aload_n 0, []) := by decide +kernel
theorem kc_196_457 : xe_code 196 457 = some (.iload 4, []) := by decide +kernel
theorem kc_196_459 : xe_code 196 459 = some (.iconst 4, []) := by decide +kernel
theorem kc_196_460 : xe_code 196 460 = some (.iadd, []) := by decide +kernel
theorem kc_196_461 : xe_code 196 461 = some (.iaload, []) := by decide +kernel
theorem kc_196_462 : xe_code 196 462 = some (.ifCond .eq 7, [469]) := by decide +kernel
theorem kc_196_465 : xe_code 196 465 = some (.iconst 1, []) := by decide +kernel
theorem kc_196_466 : xe_code 196 466 = some (.goto 4, [470]) := by decide +kernel
theorem kc_196_469 : xe_code 196 469 = some (.iconst 0, []) := by decide +kernel
theorem kc_196_470 : xe_code 196 470 = some (.invokevirtual 46, [24, 4, 1200, 12]) := by decide +kernel
theorem kc_196_473 : xe_code 196 473 = some (.if_icmp .eq 1055, [1528]) := by decide +kernel
theorem kc_196_476 : xe_code 196 476 = some (.iconst 0, []) := by decide +kernel
theorem kc_196_477 : xe_code 196 477 = some (.ireturn, []) := by decide +kernel
theorem kc_196_478 : xe_code 196 478 = some (.aload_n 1, []) := by decide +kernel
theorem kc_196_479 : xe_code 196 479 = some (.aload_n 0, []) := by decide +kernel
theorem kc_196_480 : xe_code 196 480 = some (.iload 4, []) := by decide +kernel
theorem kc_196_482 : xe_code 196 482 = some (.iconst 1, []) := by decide +kernel
theorem kc_196_483 : xe_code 196 483 = some (.iadd, []) := by decide +kernel
theorem kc_196_484 : xe_code 196 484 = some (.iaload, []) := by decide +kernel
theorem kc_196_485 : xe_code 196 485 = some (.aload_n 0, []) := by decide +kernel
theorem kc_196_486 : xe_code 196 486 = some (.iload 4, []) := by decide +kernel
theorem kc_196_488 : xe_code 196 488 = some (.iconst 2, []) := by decide +kernel
theorem kc_196_489 : xe_code 196 489 = some (.iadd, []) := by decide +kernel
theorem kc_196_490 : xe_code 196 490 = some (.iaload, []) := by decide +kernel
theorem kc_196_491 : xe_code 196 491 = some (.invokevirtual 47, [107, 2, 480, 0]) := by decide +kernel
theorem kc_196_494 : xe_code 196 494 = some (.aload_n 2, []) := by decide +kernel
theorem kc_196_495 : xe_code 196 495 = some (.aload_n 0, []) := by decide +kernel
theorem kc_196_496 : xe_code 196 496 = some (.iload 4, []) := by decide +kernel
theorem kc_196_498 : xe_code 196 498 = some (.iconst 1, []) := by decide +kernel
theorem kc_196_499 : xe_code 196 499 = some (.iadd, []) := by decide +kernel
theorem kc_196_500 : xe_code 196 500 = some (.iaload, []) := by decide +kernel
theorem kc_196_501 : xe_code 196 501 = some (.aload_n 0, []) := by decide +kernel
theorem kc_196_502 : xe_code 196 502 = some (.iload 4, []) := by decide +kernel
theorem kc_196_504 : xe_code 196 504 = some (.iconst 2, []) := by decide +kernel
theorem kc_196_505 : xe_code 196 505 = some (.iadd, []) := by decide +kernel
theorem kc_196_506 : xe_code 196 506 = some (.iaload, []) := by decide +kernel
theorem kc_196_507 : xe_code 196 507 = some (.invokevirtual 50, [26, 2, 1207, 12]) := by decide +kernel
theorem kc_196_510 : xe_code 196 510 = some (.if_icmp .eq 1018, [1528]) := by decide +kernel
theorem kc_196_513 : xe_code 196 513 = some (.iconst 0, []) := by decide +kernel
theorem kc_196_514 : xe_code 196 514 = some (.ireturn, []) := by decide +kernel
theorem kc_196_515 : xe_code 196 515 = some (.aload_n 1, []) := by decide +kernel
theorem kc_196_516 : xe_code 196 516 = some (.aload_n 0, []) := by decide +kernel
theorem kc_196_517 : xe_code 196 517 = some (.iload 4, []) := by decide +kernel
theorem kc_196_519 : xe_code 196 519 = some (.iconst 1, []) := by decide +kernel
theorem kc_196_520 : xe_code 196 520 = some (.iadd, []) := by decide +kernel
theorem kc_196_521 : xe_code 196 521 = some (.iaload, []) := by decide +kernel
theorem kc_196_522 : xe_code 196 522 = some (.invokevirtual 51, [111, 1, 499, 0]) := by decide +kernel
theorem kc_196_525 : xe_code 196 525 = some (.aload_n 2, []) := by decide +kernel
theorem kc_196_526 : xe_code 196 526 = some (.aload_n 0, []) := by decide +kernel
theorem kc_196_527 : xe_code 196 527 = some (.iload 4, []) := by decide +kernel
theorem kc_196_529 : xe_code 196 529 = some (.iconst 1, []) := by decide +kernel
theorem kc_196_530 : xe_code 196 530 = some (.iadd, []) := by decide +kernel
theorem kc_196_531 : xe_code 196 531 = some (.iaload, []) := by decide +kernel
theorem kc_196_532 : xe_code 196 532 = some (.invokevirtual 54, [28, 1, 1215, 12]) := by decide +kernel
theorem kc_196_535 : xe_code 196 535 = some (.if_icmp .eq 993, [1528]) := by decide +kernel
theorem kc_196_538 : xe_code 196 538 = some (.iconst 0, []) := by decide +kernel
theorem kc_196_539 : xe_code 196 539 = some (.ireturn, []) := by decide +kernel
theorem kc_196_540 : xe_code 196 540 = some (.aload_n 1, []) := by decide +kernel
theorem kc_196_541 : xe_code 196 541 = some (.aload_n 0, []) := by decide +kernel
theorem kc_196_542 : xe_code 196 542 = some (.iload 4, []) := by decide +kernel
theorem kc_196_544 : xe_code 196 544 = some (.iconst 1, []) := by decide +kernel
theorem kc_196_545 : xe_code 196 545 = some (.iadd, []) := by decide +kernel
theorem kc_196_546 : xe_code 196 546 = some (.iaload, []) := by decide +kernel
theorem kc_196_547 : xe_code 196 547 = some (.invokevirtual 55, [112, 1, 503, 0]) := by decide +kernel
theorem kc_196_550 : xe_code 196 550 = some (.aload_n 2, []) := by decide +kernel
theorem kc_196_551 : xe_code 196 551 = some (.aload_n 0, []) := by decide +kernel
theorem kc_196_552 : xe_code 196 552 = some (.iload 4, []) := by decide +kernel
theorem kc_196_554 : xe_code 196 554 = some (.iconst 1, []) := by decide +kernel
theorem kc_196_555 : xe_code 196 555 = some (.iadd, []) := by decide +kernel
theorem kc_196_556 : xe_code 196 556 = some (.iaload, []) := by decide +kernel
theorem kc_196_557 : xe_code 196 557 = some (.invokevirtual 58, [29, 1, 1219, 12]) := by decide +kernel
theorem kc_196_560 : xe_code 196 560 = some (.if_icmp .eq 968, [1528]) := by decide +kernel
theorem kc_196_563 : xe_code 196 563 = some (.iconst 0, []) := by decide +kernel
theorem kc_196_564 : xe_code 196 564 = some (.ireturn, []) := by decide +kernel
theorem kc_196_565 : xe_code 196 565 = some (.aload_n 1, []) := by decide +kernel
theorem kc_196_566 : xe_code 196 566 = some (.aload_n 0, []) := by decide +kernel
theorem kc_196_567 : xe_code 196 567 = some (.iload 4, []) := by decide +kernel
theorem kc_196_569 : xe_code 196 569 = some (.iconst 1, []) := by decide +kernel
theorem kc_196_570 : xe_code 196 570 = some (.iadd, []) := by decide +kernel
theorem kc_196_571 : xe_code 196 571 = some (.iaload, []) := by decide +kernel
theorem kc_196_572 : xe_code 196 572 = some (.invokevirtual 59, [113, 1, 507, 0]) := by decide +kernel
theorem kc_196_575 : xe_code 196 575 = some (.aload_n 2, []) := by decide +kernel
theorem kc_196_576 : xe_code 196 576 = some (.aload_n 0, []) := by decide +kernel
theorem kc_196_577 : xe_code 196 577 = some (.iload 4, []) := by decide +kernel
theorem kc_196_579 : xe_code 196 579 = some (.iconst 1, []) := by decide +kernel
theorem kc_196_580 : xe_code 196 580 = some (.iadd, []) := by decide +kernel
theorem kc_196_581 : xe_code 196 581 = some (.iaload, []) := by decide +kernel
theorem kc_196_582 : xe_code 196 582 = some (.invokevirtual 62, [30, 1, 1223, 12]) := by decide +kernel
theorem kc_196_585 : xe_code 196 585 = some (.if_icmp .eq 943, [1528]) := by decide +kernel
theorem kc_196_588 : xe_code 196 588 = some (.iconst 0, []) := by decide +kernel
theorem kc_196_589 : xe_code 196 589 = some (.ireturn, []) := by decide +kernel
theorem kc_196_590 : xe_code 196 590 = some (.aload_n 1, []) := by decide +kernel
theorem kc_196_591 : xe_code 196 591 = some (.aload_n 0, []) := by decide +kernel
theorem kc_196_592 : xe_code 196 592 = some (.iload 4, []) := by decide +kernel
theorem kc_196_594 : xe_code 196 594 = some (.iconst 1, []) := by decide +kernel
theorem kc_196_595 : xe_code 196 595 = some (.iadd, []) := by decide +kernel
theorem kc_196_596 : xe_code 196 596 = some (.iaload, []) := by decide +kernel
theorem kc_196_597 : xe_code 196 597 = some (.aload_n 0, []) := by decide +kernel
theorem kc_196_598 : xe_code 196 598 = some (.iload 4, []) := by decide +kernel
theorem kc_196_600 : xe_code 196 600 = some (.iconst 2, []) := by decide +kernel
theorem kc_196_601 : xe_code 196 601 = some (.iadd, []) := by decide +kernel
theorem kc_196_602 : xe_code 196 602 = some (.iaload, []) := by decide +kernel
theorem kc_196_603 : xe_code 196 603 = some (.aload_n 0, []) := by decide +kernel
theorem kc_196_604 : xe_code 196 604 = some (.iload 4, []) := by decide +kernel
theorem kc_196_606 : xe_code 196 606 = some (.iconst 3, []) := by decide +kernel
theorem kc_196_607 : xe_code 196 607 = some (.iadd, []) := by decide +kernel
theorem kc_196_608 : xe_code 196 608 = some (.iaload, []) := by decide +kernel
theorem kc_196_609 : xe_code 196 609 = some (.aload_n 0, []) := by decide +kernel
theorem kc_196_610 : xe_code 196 610 = some (.iload 4, []) := by decide +kernel
theorem kc_196_612 : xe_code 196 612 = some (.iconst 4, []) := by decide +kernel
theorem kc_196_613 : xe_code 196 613 = some (.iadd, []) := by decide +kernel
theorem kc_196_614 : xe_code 196 614 = some (.iaload, []) := by decide +kernel
theorem kc_196_615 : xe_code 196 615 = some (.invokevirtual 63, [114, 4, 511, 0]) := by decide +kernel
theorem kc_196_618 : xe_code 196 618 = some (.aload_n 2, []) := by decide +kernel
theorem kc_196_619 : xe_code 196 619 = some (.aload_n 0, []) := by decide +kernel
theorem kc_196_620 : xe_code 196 620 = some (.iload 4, []) := by decide +kernel
theorem kc_196_622 : xe_code 196 622 = some (.iconst 1, []) := by decide +kernel
theorem kc_196_623 : xe_code 196 623 = some (.iadd, []) := by decide +kernel
theorem kc_196_624 : xe_code 196 624 = some (.iaload, []) := by decide +kernel
theorem kc_196_625 : xe_code 196 625 = some (.aload_n 0, []) := by decide +kernel
theorem kc_196_626 : xe_code 196 626 = some (.iload 4, []) := by decide +kernel
theorem kc_196_628 : xe_code 196 628 = some (.iconst 2, []) := by decide +kernel
theorem kc_196_629 : xe_code 196 629 = some (.iadd, []) := by decide +kernel
theorem kc_196_630 : xe_code 196 630 = some (.iaload, []) := by decide +kernel
theorem kc_196_631 : xe_code 196 631 = some (.aload_n 0, []) := by decide +kernel
theorem kc_196_632 : xe_code 196 632 = some (.iload 4, []) := by decide +kernel
theorem kc_196_634 : xe_code 196 634 = some (.iconst 3, []) := by decide +kernel
theorem kc_196_635 : xe_code 196 635 = some (.iadd, []) := by decide +kernel
theorem kc_196_636 : xe_code 196 636 = some (.iaload, []) := by decide +kernel
theorem kc_196_637 : xe_code 196 637 = some (.aload_n 0, []) := by decide +kernel
theorem kc_196_638 : xe_code 196 638 = some (.iload 4, []) := by decide +kernel
theorem kc_196_640 : xe_code 196 640 = some (.iconst 4, []) := by decide +kernel
theorem kc_196_641 : xe_code 196 641 = some (.iadd, []) := by decide +kernel
theorem kc_196_642 : xe_code 196 642 = some (.iaload, []) := by decide +kernel
theorem kc_196_643 : xe_code 196 643 = some (.invokevirtual 67, [31, 4, 1227, 12]) := by decide +kernel
theorem kc_196_646 : xe_code 196 646 = some (.if_icmp .eq 882, [1528]) := by decide +kernel
theorem kc_196_649 : xe_code 196 649 = some (.iconst 0, []) := by decide +kernel
theorem kc_196_650 : xe_code 196 650 = some (.ireturn, []) := by decide +kernel
theorem kc_196_651 : xe_code 196 651 = some (.aload_n 1, []) := by decide +kernel
theorem kc_196_652 : xe_code 196 652 = some (.aload_n 0, []) := by decide +kernel
theorem kc_196_653 : xe_code 196 653 = some (.iload 4, []) := by decide +kernel
theorem kc_196_655 : xe_code 196 655 = some (.iconst 1, []) := by decide +kernel
theorem kc_196_656 : xe_code 196 656 = some (.iadd, []) := by decide +kernel
theorem kc_196_657 : xe_code 196 657 = some (.iaload, []) := by decide +kernel
theorem kc_196_658 : xe_code 196 658 = some (.aload_n 0, []) := by decide +kernel
theorem kc_196_659 : xe_code 196 659 = some (.iload 4, []) := by decide +kernel
theorem kc_196_661 : xe_code 196 661 = some (.iconst 2, []) := by decide +kernel
theorem kc_196_662 : xe_code 196 662 = some (.iadd, []) := by decide +kernel
theorem kc_196_663 : xe_code 196 663 = some (.iaload, []) := by decide +kernel
theorem kc_196_664 : xe_code 196 664 = some (.aload_n 0, []) := by decide +kernel
theorem kc_196_665 : xe_code 196 665 = some (.iload 4, []) := by decide +kernel
theorem kc_196_667 : xe_code 196 667 = some (.iconst 3, []) := by decide +kernel
theorem kc_196_668 : xe_code 196 668 = some (.iadd, []) := by decide +kernel
theorem kc_196_669 : xe_code 196 669 = some (.iaload, []) := by decide +kernel
theorem kc_196_670 : xe_code 196 670 = some (.aload_n 0, []) := by decide +kernel
theorem kc_196_671 : xe_code 196 671 = some (.iload 4, []) := by decide +kernel
theorem kc_196_673 : xe_code 196 673 = some (.iconst 4, []) := by decide +kernel
theorem kc_196_674 : xe_code 196 674 = some (.iadd, []) := by decide +kernel
theorem kc_196_675 : xe_code 196 675 = some (.iaload, []) := by decide +kernel
theorem kc_196_676 : xe_code 196 676 = some (.invokevirtual 68, [117, 4, 525, 0]) := by decide +kernel
theorem kc_196_679 : xe_code 196 679 = some (.aload_n 2, []) := by decide +kernel
theorem kc_196_680 : xe_code 196 680 = some (.aload_n 0, []) := by decide +kernel
theorem kc_196_681 : xe_code 196 681 = some (.iload 4, []) := by decide +kernel
theorem kc_196_683 : xe_code 196 683 = some (.iconst 1, []) := by decide +kernel
theorem kc_196_684 : xe_code 196 684 = some (.iadd, []) := by decide +kernel
theorem kc_196_685 : xe_code 196 685 = some (.iaload, []) := by decide +kernel
theorem kc_196_686 : xe_code 196 686 = some (.aload_n 0, []) := by decide +kernel
theorem kc_196_687 : xe_code 196 687 = some (.iload 4, []) := by decide +kernel
theorem kc_196_689 : xe_code 196 689 = some (.iconst 2, []) := by decide +kernel
theorem kc_196_690 : xe_code 196 690 = some (.iadd, []) := by decide +kernel
theorem kc_196_691 : xe_code 196 691 = some (.iaload, []) := by decide +kernel
theorem kc_196_692 : xe_code 196 692 = some (.aload_n 0, []) := by decide +kernel
theorem kc_196_693 : xe_code 196 693 = some (.iload 4, []) := by decide +kernel
theorem kc_196_695 : xe_code 196 695 = some (.iconst 3, []) := by decide +kernel
theorem kc_196_696 : xe_code 196 696 = some (.iadd, []) := by decide +kernel
theorem kc_196_697 : xe_code 196 697 = some (.iaload, []) := by decide +kernel
theorem kc_196_698 : xe_code 196 698 = some (.aload_n 0, []) := by decide +kernel
theorem kc_196_699 : xe_code 196 699 = some (.iload 4, []) := by decide +kernel
theorem kc_196_701 : xe_code 196 701 = some (.iconst 4, []) := by decide +kernel
theorem kc_196_702 : xe_code 196 702 = some (.iadd, []) := by decide +kernel
theorem kc_196_703 : xe_code 196 703 = some (.iaload, []) := by decide +kernel
theorem kc_196_704 : xe_code 196 704 = some (.invokevirtual 71, [33, 4, 1235, 12]) := by decide +kernel
theorem kc_196_707 : xe_code 196 707 = some (.if_icmp .eq 821, [1528]) := by decide +kernel
theorem kc_196_710 : xe_code 196 710 = some (.iconst 0, []) := by decide +kernel
theorem kc_196_711 : xe_code 196 711 = some (.ireturn, []) := by decide +kernel
theorem kc_196_712 : xe_code 196 712 = some (.aload_n 1, []) := by decide +kernel
theorem kc_196_713 : xe_code 196 713 = some (.aload_n 0, []) := by decide +kernel
theorem kc_196_714 : xe_code 196 714 = some (.iload 4, []) := by decide +kernel
theorem kc_196_716 : xe_code 196 716 = some (.iconst 1, []) := by decide +kernel
theorem kc_196_717 : xe_code 196 717 = some (.iadd, []) := by decide +kernel
theorem kc_196_718 : xe_code 196 718 = some (.iaload, []) := by decide +kernel
theorem kc_196_719 : xe_code 196 719 = some (.aload_n 0, []) := by decide +kernel
theorem kc_196_720 : xe_code 196 720 = some (.iload 4, []) := by decide +kernel
theorem kc_196_722 : xe_code 196 722 = some (.iconst 2, []) := by decide +kernel
theorem kc_196_723 : xe_code 196 723 = some (.iadd, []) := by decide +kernel
theorem kc_196_724 : xe_code 196 724 = some (.iaload, []) := by decide +kernel
theorem kc_196_725 : xe_code 196 725 = some (.ifCond .eq 7, [732]) := by decide +kernel
theorem kc_196_728 : xe_code 196 728 = some (.iconst 1, []) := by decide +kernel
theorem kc_196_729 : xe_code 196 729 = some (.goto 4, [733]) := by decide +kernel
theorem kc_196_732 : xe_code 196 732 = some (.iconst 0, []) := by decide +kernel
theorem kc_196_733 : xe_code 196 733 = some (.invokevirtual 72, [121, 2, 540, 0]) := by decide +kernel
theorem kc_196_736 : xe_code 196 736 = some (.aload_n 2, []) := by decide +kernel
theorem kc_196_737 : xe_code 196 737 = some (.aload_n 0, []) := by decide +kernel
theorem kc_196_738 : xe_code 196 738 = some (.iload 4, []) := by decide +kernel
theorem kc_196_740 : xe_code 196 740 = some (.iconst 1, []) := by decide +kernel
theorem kc_196_741 : xe_code 196 741 = some (.iadd, []) := by decide +kernel
theorem kc_196_742 : xe_code 196 742 = some (.iaload, []) := by decide +kernel
theorem kc_196_743 : xe_code 196 743 = some (.aload_n 0, []) := by decide +kernel
theorem kc_196_744 : xe_code 196 744 = some (.iload 4, []) := by decide +kernel
theorem kc_196_746 : xe_code 196 746 = some (.iconst 2, []) := by decide +kernel
theorem kc_196_747 : xe_code 196 747 = some (.iadd, []) := by decide +kernel
theorem kc_196_748 : xe_code 196 748 = some (.iaload, []) := by decide +kernel
theorem kc_196_749 : xe_code 196 749 = some (.ifCond .eq 7, [756]) := by decide +kernel
theorem kc_196_752 : xe_code 196 752 = some (.iconst 1, []) := by decide +kernel
theorem kc_196_753 : xe_code 196 753 = some (.goto 4, [757]) := by decide +kernel
theorem kc_196_756 : xe_code 196 756 = some (.iconst 0, []) := by decide +kernel
theorem kc_196_757 : xe_code 196 757 = some (.invokevirtual 76, [34, 2, 1239, 12]) := by decide +kernel
theorem kc_196_760 : xe_code 196 760 = some (.if_icmp .eq 768, [1528]) := by decide +kernel
theorem kc_196_763 : xe_code 196 763 = some (.iconst 0, []) := by decide +kernel
theorem kc_196_764 : xe_code 196 764 = some (.ireturn, []) := by decide +kernel
theorem kc_196_765 : xe_code 196 765 = some (.aload_n 1, []) := by decide +kernel
theorem kc_196_766 : xe_code 196 766 = some (.aload_n 0, []) := by decide +kernel
theorem kc_196_767 : xe_code 196 767 = some (.iload 4, []) := by decide +kernel
theorem kc_196_769 : xe_code 196 769 = some (.iconst 1, []) := by decide +kernel
theorem kc_196_770 : xe_code 196 770 = some (.iadd, []) := by decide +kernel
theorem kc_196_771 : xe_code 196 771 = some (.iaload, []) := by decide +kernel
theorem kc_196_772 : xe_code 196 772 = some (.invokevirtual 77, [122, 1, 544, 0]) := by decide +kernel
theorem kc_196_775 : xe_code 196 775 = some (.aload_n 2, []) := by decide +kernel
theorem kc_196_776 : xe_code 196 776 = some (.aload_n 0, []) := by decide +kernel
theorem kc_196_777 : xe_code 196 777 = some (.iload 4, []) := by decide +kernel
theorem kc_196_779 : xe_code 196 779 = some (.iconst 1, []) := by decide +kernel
theorem kc_196_780 : xe_code 196 780 = some (.iadd, []) := by decide +kernel
theorem kc_196_781 : xe_code 196 781 = some (.iaload, []) := by decide +kernel
theorem kc_196_782 : xe_code 196 782 = some (.invokevirtual 80, [35, 1, 1243, 12]) := by decide +kernel
theorem kc_196_785 : xe_code 196 785 = some (.if_icmp .eq 743, [1528]) := by decide +kernel
theorem kc_196_788 : xe_code 196 788 = some (.iconst 0, []) := by decide +kernel
theorem kc_196_789 : xe_code 196 789 = some (.ireturn, []) := by decide +kernel
theorem kc_196_790 : xe_code 196 790 = some (.aload_n 1, []) := by decide +kernel
theorem kc_196_791 : xe_code 196 791 = some (.aload_n 0, []) := by decide +kernel
theorem kc_196_792 : xe_code 196 792 = some (.iload 4, []) := by decide +kernel
theorem kc_196_794 : xe_code 196 794 = some (.iconst 1, []) := by decide +kernel
theorem kc_196_795 : xe_code 196 795 = some (.iadd, []) := by decide +kernel
theorem kc_196_796 : xe_code 196 796 = some (.iaload, []) := by decide +kernel
theorem kc_196_797 : xe_code 196 797 = some (.aload_n 3, []) := by decide +kernel
theorem kc_196_798 : xe_code 196 798 = some (.invokestatic 81, [195, 3, 866, 0]) := by decide +kernel
theorem kc_196_801 : xe_code 196 801 = some (.istore 5, []) := by decide +kernel
theorem kc_196_803 : xe_code 196 803 = some (.aload_n 2, []) := by decide +kernel
theorem kc_196_804 : xe_code 196 804 = some (.aload_n 0, []) := by decide +kernel
theorem kc_196_805 : xe_code 196 805 = some (.iload 4, []) := by decide +kernel
theorem kc_196_807 : xe_code 196 807 = some (.iconst 1, []) := by decide +kernel
theorem kc_196_808 : xe_code 196 808 = some (.iadd, []) := by decide +kernel
theorem kc_196_809 : xe_code 196 809 = some (.iaload, []) := by decide +kernel
theorem kc_196_810 : xe_code 196 810 = some (.invokevirtual 86, [42, 1, 1270, 12]) := by decide +kernel
theorem kc_196_813 : xe_code 196 813 = some (.lstore 6, []) := by decide +kernel
theorem kc_196_815 : xe_code 196 815 = some (.aload_n 2, []) := by decide +kernel
theorem kc_196_816 : xe_code 196 816 = some (.invokevirtual 87, [9, 0, 1141, 12]) := by decide +kernel
theorem kc_196_819 : xe_code 196 819 = some (.iload 5, []) := by decide +kernel
theorem kc_196_821 : xe_code 196 821 = some (.if_icmp .eq 5, [826]) := by decide +kernel
theorem kc_196_824 : xe_code 196 824 = some (.iconst 0, []) := by decide +kernel
theorem kc_196_825 : xe_code 196 825 = some (.ireturn, []) := by decide +kernel
theorem kc_196_826 : xe_code 196 826 = some (.iload 5, []) := by decide +kernel
theorem kc_196_828 : xe_code 196 828 = some (.ifCond .ne 14, [842]) := by decide +kernel
theorem kc_196_831 : xe_code 196 831 = some (.aload_n 3, []) := by decide +kernel
theorem kc_196_832 : xe_code 196 832 = some (.iconst 0, []) := by decide +kernel
theorem kc_196_833 : xe_code 196 833 = some (.laload, []) := by decide +kernel
theorem kc_196_834 : xe_code 196 834 = some (.lload 6, []) := by decide +kernel
theorem kc_196_836 : xe_code 196 836 = some (.lcmp, []) := by decide +kernel
theorem kc_196_837 : xe_code 196 837 = some (.ifCond .eq 5, [842]) := by decide +kernel
theorem kc_196_840 : xe_code 196 840 = some (.iconst 0, []) := by decide +kernel
theorem kc_196_841 : xe_code 196 841 = some (.ireturn, []) := by decide +kernel
theorem kc_196_842 : xe_code 196 842 = some (.goto 686, [1528]) := by decide +kernel
theorem kc_196_845 : xe_code 196 845 = some (.aload_n 1, []) := by decide +kernel
theorem kc_196_846 : xe_code 196 846 = some (.aload_n 0, []) := by decide +kernel
theorem kc_196_847 : xe_code 196 847 = some (.iload 4, []) := by decide +kernel
theorem kc_196_849 : xe_code 196 849 = some (.iconst 1, []) := by decide +kernel
theorem kc_196_850 : xe_code 196 850 = some (.iadd, []) := by decide +kernel
theorem kc_196_851 : xe_code 196 851 = some (.iaload, []) := by decide +kernel
theorem kc_196_852 : xe_code 196 852 = some (.aload_n 0, []) := by decide +kernel
theorem kc_196_853 : xe_code 196 853 = some (.iload 4, []) := by decide +kernel
theorem kc_196_855 : xe_code 196 855 = some (.iconst 2, []) := by decide +kernel
theorem kc_196_856 : xe_code 196 856 = some (.iadd, []) := by decide +kernel
theorem kc_196_857 : xe_code 196 857 = some (.iaload, []) := by decide +kernel
theorem kc_196_858 : xe_code 196 858 = some (.invokevirtual 91, [138, 2, 613, 0]) := by decide +kernel
theorem kc_196_861 : xe_code 196 861 = some (.aload_n 2, []) := by decide +kernel
theorem kc_196_862 : xe_code 196 862 = some (.aload_n 0, []) := by decide +kernel
theorem kc_196_863 : xe_code 196 863 = some (.iload 4, []) := by decide +kernel
theorem kc_196_865 : xe_code 196 865 = some (.iconst 1, []) := by decide +kernel
theorem kc_196_866 : xe_code 196 866 = some (.iadd, []) := by decide +kernel
theorem kc_196_867 : xe_code 196 867 = some (.iaload, []) := by decide +kernel
theorem kc_196_868 : xe_code 196 868 = some (.aload_n 0, []) := by decide +kernel
theorem kc_196_869 : xe_code 196 869 = some (.iload 4, []) := by decide +kernel
theorem kc_196_871 : xe_code 196 871 = some (.iconst 2, []) := by decide +kernel
theorem kc_196_872 : xe_code 196 872 = some (.iadd, []) := by decide +kernel
theorem kc_196_873 : xe_code 196 873 = some (.iaload, []) := by decide +kernel
theorem kc_196_874 : xe_code 196 874 = some (.invokevirtual 94, [47, 2, 1290, 12]) := by decide +kernel
theorem kc_196_877 : xe_code 196 877 = some (.if_icmp .eq 651, [1528]) := by decide +kernel
theorem kc_196_880 : xe_code 196 880 = some (.iconst 0, []) := by decide +kernel
theorem kc_196_881 : xe_code 196 881 = some (.ireturn, []) := by decide +kernel
theorem kc_196_882 : xe_code 196 882 = some (.aload_n 1, []) := by decide +kernel
theorem kc_196_883 : xe_code 196 883 = some (.invokevirtual 95, [145, 0, 644, 0]) := by decide +kernel
theorem kc_196_886 : xe_code 196 886 = some (.aload_n 2, []) := by decide +kernel
theorem kc_196_887 : xe_code 196 887 = some (.invokevirtual 98, [48, 0, 1294, 12]) := by decide +kernel
theorem kc_196_890 : xe_code 196 890 = some (.if_icmp .eq 638, [1528]) := by decide +kernel
theorem kc_196_893 : xe_code 196 893 = some (.iconst 0, []) := by decide +kernel
theorem kc_196_894 : xe_code 196 894 = some (.ireturn, []) := by decide +kernel
theorem kc_196_895 : xe_code 196 895 = some (.aload_n 1, []) := by decide +kernel
theorem kc_196_896 : xe_code 196 896 = some (.aload_n 0, []) := by decide +kernel
theorem kc_196_897 : xe_code 196 897 = some (.iload 4, []) := by decide +kernel
theorem kc_196_899 : xe_code 196 899 = some (.iconst 1, []) := by decide +kernel
theorem kc_196_900 : xe_code 196 900 = some (.iadd, []) := by decide +kernel
theorem kc_196_901 : xe_code 196 901 = some (.iaload, []) := by decide +kernel
theorem kc_196_902 : xe_code 196 902 = some (.invokevirtual 99, [149, 1, 667, 0]) := by decide +kernel
theorem kc_196_905 : xe_code 196 905 = some (.aload_n 2, []) := by decide +kernel
theorem kc_196_906 : xe_code 196 906 = some (.aload_n 0, []) := by decide +kernel
theorem kc_196_907 : xe_code 196 907 = some (.iload 4, []) := by decide +kernel
theorem kc_196_909 : xe_code 196 909 = some (.iconst 1, []) := by decide +kernel
theorem kc_196_910 : xe_code 196 910 = some (.iadd, []) := by decide +kernel
theorem kc_196_911 : xe_code 196 911 = some (.iaload, []) := by decide +kernel
theorem kc_196_912 : xe_code 196 912 = some (.invokevirtual 102, [51, 1, 1305, 12]) := by decide +kernel
theorem kc_196_915 : xe_code 196 915 = some (.if_icmp .eq 613, [1528]) := by decide +kernel
theorem kc_196_918 : xe_code 196 918 = some (.iconst 0, []) := by decide +kernel
theorem kc_196_919 : xe_code 196 919 = some (.ireturn, []) := by decide +kernel
theorem kc_196_920 : xe_code 196 920 = some (.aload_n 1, []) := by decide +kernel
theorem kc_196_921 : xe_code 196 921 = some (.invokevirtual 103, [152, 0, 679, 0]) := by decide +kernel
theorem kc_196_924 : xe_code 196 924 = some (.aload_n 2, []) := by decide +kernel
theorem kc_196_925 : xe_code 196 925 = some (.invokevirtual 106, [52, 0, 1309, 12]) := by decide +kernel
theorem kc_196_928 : xe_code 196 928 = some (.if_icmp .eq 600, [1528]) := by decide +kernel
theorem kc_196_931 : xe_code 196 931 = some (.iconst 0, []) := by decide +kernel
theorem kc_196_932 : xe_code 196 932 = some (.ireturn, []) := by decide +kernel
theorem kc_196_933 : xe_code 196 933 = some (.aload_n 1, []) := by decide +kernel
theorem kc_196_934 : xe_code 196 934 = some (.aload_n 0, []) := by decide +kernel
theorem kc_196_935 : xe_code 196 935 = some (.iload 4, []) := by decide +kernel
theorem kc_196_937 : xe_code 196 937 = some (.iconst 1, []) := by decide +kernel
theorem kc_196_938 : xe_code 196 938 = some (.iadd, []) := by decide +kernel
theorem kc_196_939 : xe_code 196 939 = some (.iaload, []) := by decide +kernel
theorem kc_196_940 : xe_code 196 940 = some (.aload_n 0, []) := by decide +kernel
theorem kc_196_941 : xe_code 196 941 = some (.iload 4, []) := by decide +kernel
theorem kc_196_943 : xe_code 196 943 = some (.iconst 2, []) := by decide +kernel
theorem kc_196_944 : xe_code 196 944 = some (.iadd, []) := by decide +kernel
theorem kc_196_945 : xe_code 196 945 = some (.iaload, []) := by decide +kernel
theorem kc_196_946 : xe_code 196 946 = some (.invokevirtual 107, [156, 2, 702, 0]) := by decide +kernel
theorem kc_196_949 : xe_code 196 949 = some (.aload_n 2, []) := by decide +kernel
theorem kc_196_950 : xe_code 196 950 = some (.aload_n 0, []) := by decide +kernel
theorem kc_196_951 : xe_code 196 951 = some (.iload 4, []) := by decide +kernel
theorem kc_196_953 : xe_code 196 953 = some (.iconst 1, []) := by decide +kernel
theorem kc_196_954 : xe_code 196 954 = some (.iadd, []) := by decide +kernel
theorem kc_196_955 : xe_code 196 955 = some (.iaload, []) := by decide +kernel
theorem kc_196_956 : xe_code 196 956 = some (.aload_n 0, []) := by decide +kernel
theorem kc_196_957 : xe_code 196 957 = some (.iload 4, []) := by decide +kernel
theorem kc_196_959 : xe_code 196 959 = some (.iconst 2, []) := by decide +kernel
theorem kc_196_960 : xe_code 196 960 = some (.iadd, []) := by decide +kernel
theorem kc_196_961 : xe_code 196 961 = some (.iaload, []) := by decide +kernel
theorem kc_196_962 : xe_code 196 962 = some (.invokevirtual 110, [56, 2, 1325, 12]) := by decide +kernel
theorem kc_196_965 : xe_code 196 965 = some (.if_icmp .eq 563, [1528]) := by decide +kernel
theorem kc_196_968 : xe_code 196 968 = some (.iconst 0, []) := by decide +kernel
theorem kc_196_969 : xe_code 196 969 = some (.ireturn, []) := by decide +kernel
theorem kc_196_970 : xe_code 196 970 = some (.aload_n 1, []) := by decide +kernel
theorem kc_196_971 : xe_code 196 971 = some (.aload_n 0, []) := by decide +kernel
theorem kc_196_972 : xe_code 196 972 = some (.iload 4, []) := by decide +kernel
theorem kc_196_974 : xe_code 196 974 = some (.iconst 1, []) := by decide +kernel
theorem kc_196_975 : xe_code 196 975 = some (.iadd, []) := by decide +kernel
theorem kc_196_976 : xe_code 196 976 = some (.iaload, []) := by decide +kernel
theorem kc_196_977 : xe_code 196 977 = some (.aload_n 0, []) := by decide +kernel
theorem kc_196_978 : xe_code 196 978 = some (.iload 4, []) := by decide +kernel
theorem kc_196_980 : xe_code 196 980 = some (.iconst 2, []) := by decide +kernel
theorem kc_196_981 : xe_code 196 981 = some (.iadd, []) := by decide +kernel
theorem kc_196_982 : xe_code 196 982 = some (.iaload, []) := by decide +kernel
theorem kc_196_983 : xe_code 196 983 = some (.ifCond .eq 7, [990]) := by decide +kernel
theorem kc_196_986 : xe_code 196 986 = some (.iconst 1, []) := by decide +kernel
theorem kc_196_987 : xe_code 196 987 = some (.goto 4, [991]) := by decide +kernel
theorem kc_196_990 : xe_code 196 990 = some (.iconst 0, []) := by decide +kernel
theorem kc_196_991 : xe_code 196 991 = some (.invokevirtual 111, [158, 2, 710, 0]) := by decide +kernel
theorem kc_196_994 : xe_code 196 994 = some (.aload_n 2, []) := by decide +kernel
theorem kc_196_995 : xe_code 196 995 = some (.aload_n 0, []) := by decide +kernel
theorem kc_196_996 : xe_code 196 996 = some (.iload 4, []) := by decide +kernel
theorem kc_196_998 : xe_code 196 998 = some (.iconst 1, []) := by decide +kernel
theorem kc_196_999 : xe_code 196 999 = some (.iadd, []) := by decide +kernel
theorem kc_196_1000 : xe_code 196 1000 = some (.iaload, []) := by decide +kernel
theorem kc_196_1001 : xe_code 196 1001 = some (.aload_n 0, []) := by decide +kernel
theorem kc_196_1002 : xe_code 196 1002 = some (.iload 4, []) := by decide +kernel
theorem kc_196_1004 : xe_code 196 1004 = some (.iconst 2, []) := by decide +kernel
theorem kc_196_1005 : xe_code 196 1005 = some (.iadd, []) := by decide +kernel
theorem kc_196_1006 : xe_code 196 1006 = some (.iaload, []) := by decide +kernel
theorem kc_196_1007 : xe_code 196 1007 = some (.ifCond .eq 7, [1014]) := by decide +kernel
theorem kc_196_1010 : xe_code 196 1010 = some (.iconst 1, []) := by decide +kernel
theorem kc_196_1011 : xe_code 196 1011 = some (.goto 4, [1015]) := by decide +kernel
theorem kc_196_1014 : xe_code 196 1014 = some (.iconst 0, []) := by decide +kernel
theorem kc_196_1015 : xe_code 196 1015 = some (.invokevirtual 114, [57, 2, 1329, 12]) := by decide +kernel
theorem kc_196_1018 : xe_code 196 1018 = some (.if_icmp .eq 510, [1528]) := by decide +kernel
theorem kc_196_1021 : xe_code 196 1021 = some (.iconst 0, []) := by decide +kernel
theorem kc_196_1022 : xe_code 196 1022 = some (.ireturn, []) := by decide +kernel
theorem kc_196_1023 : xe_code 196 1023 = some (.aload_n 1, []) := by decide +kernel
theorem kc_196_1024 : xe_code 196 1024 = some (.invokevirtual 115, [159, 0, 714, 0]) := by decide +kernel
theorem kc_196_1027 : xe_code 196 1027 = some (.aload_n 2, []) := by decide +kernel
theorem kc_196_1028 : xe_code 196 1028 = some (.invokevirtual 118, [58, 0, 1333, 12]) := by decide +kernel
theorem kc_196_1031 : xe_code 196 1031 = some (.if_icmp .eq 497, [1528]) := by decide +kernel
theorem kc_196_1034 : xe_code 196 1034 = some (.iconst 0, []) := by decide +kernel
theorem kc_196_1035 : xe_code 196 1035 = some (.ireturn, []) := by decide +kernel
theorem kc_196_1036 : xe_code 196 1036 = some (.aload_n 1, []) := by decide +kernel
theorem kc_196_1037 : xe_code 196 1037 = some (.invokevirtual 119, [161, 0, 726, 0]) := by decide +kernel
theorem kc_196_1040 : xe_code 196 1040 = some (.aload_n 2, []) := by decide +kernel
theorem kc_196_1041 : xe_code 196 1041 = some (.invokevirtual 122, [59, 0, 1337, 12]) := by decide +kernel
theorem kc_196_1044 : xe_code 196 1044 = some (.if_icmp .eq 484, [1528]) := by decide +kernel
theorem kc_196_1047 : xe_code 196 1047 = some (.iconst 0, []) := by decide +kernel
theorem kc_196_1048 : xe_code 196 1048 = some (.ireturn, []) := by decide +kernel
theorem kc_196_1049 : xe_code 196 1049 = some (.aload_n 1, []) := by decide +kernel
theorem kc_196_1050 : xe_code 196 1050 = some (.aload_n 0, []) := by decide +kernel
theorem kc_196_1051 : xe_code 196 1051 = some (.iload 4, []) := by decide +kernel
theorem kc_196_1053 : xe_code 196 1053 = some (.iconst 1, []) := by decide +kernel
theorem kc_196_1054 : xe_code 196 1054 = some (.iadd, []) := by decide +kernel
theorem kc_196_1055 : xe_code 196 1055 = some (.iaload, []) := by decide +kernel
theorem kc_196_1056 : xe_code 196 1056 = some (.aload_n 0, []) := by decide +kernel
theorem kc_196_1057 : xe_code 196 1057 = some (.iload 4, []) := by decide +kernel
theorem kc_196_1059 : xe_code 196 1059 = some (.iconst 2, []) := by decide +kernel
theorem kc_196_1060 : xe_code 196 1060 = some (.iadd, []) := by decide +kernel
theorem kc_196_1061 : xe_code 196 1061 = some (.iaload, []) := by decide +kernel
theorem kc_196_1062 : xe_code 196 1062 = some (.aload_n 0, []) := by decide +kernel
theorem kc_196_1063 : xe_code 196 1063 = some (.iload 4, []) := by decide +kernel
theorem kc_196_1065 : xe_code 196 1065 = some (.iconst 3, []) := by decide +kernel
theorem kc_196_1066 : xe_code 196 1066 = some (.iadd, []) := by decide +kernel
theorem kc_196_1067 : xe_code 196 1067 = some (.iaload, []) := by decide +kernel
theorem kc_196_1068 : xe_code 196 1068 = some (.aload_n 0, []) := by decide +kernel
theorem kc_196_1069 : xe_code 196 1069 = some (.iload 4, []) := by decide +kernel
theorem kc_196_1071 : xe_code 196 1071 = some (.iconst 4, []) := by decide +kernel
theorem kc_196_1072 : xe_code 196 1072 = some (.iadd, []) := by decide +kernel
theorem kc_196_1073 : xe_code 196 1073 = some (.iaload, []) := by decide +kernel
theorem kc_196_1074 : xe_code 196 1074 = some (.aload_n 0, []) := by decide +kernel
theorem kc_196_1075 : xe_code 196 1075 = some (.iload 4, []) := by decide +kernel
theorem kc_196_1077 : xe_code 196 1077 = some (.iconst 5, []) := by decide +kernel
theorem kc_196_1078 : xe_code 196 1078 = some (.iadd, []) := by decide +kernel
theorem kc_196_1079 : xe_code 196 1079 = some (.iaload, []) := by decide +kernel
theorem kc_196_1080 : xe_code 196 1080 = some (.invokevirtual 123, [164, 5, 742, 0]) := by decide +kernel
theorem kc_196_1083 : xe_code 196 1083 = some (.aload_n 2, []) := by decide +kernel
theorem kc_196_1084 : xe_code 196 1084 = some (.aload_n 0, []) := by decide +kernel
theorem kc_196_1085 : xe_code 196 1085 = some (.iload 4, []) := by decide +kernel
theorem kc_196_1087 : xe_code 196 1087 = some (.iconst 1, []) := by decide +kernel
theorem kc_196_1088 : xe_code 196 1088 = some (.iadd, []) := by decide +kernel
theorem kc_196_1089 : xe_code 196 1089 = some (.iaload, []) := by decide +kernel
theorem kc_196_1090 : xe_code 196 1090 = some (.aload_n 0, []) := by decide +kernel
theorem kc_196_1091 : xe_code 196 1091 = some (.iload 4, []) := by decide +kernel
theorem kc_196_1093 : xe_code 196 1093 = some (.iconst 2, []) := by decide +kernel
theorem kc_196_1094 : xe_code 196 1094 = some (.iadd, []) := by decide +kernel
theorem kc_196_1095 : xe_code 196 1095 = some (.iaload, []) := by decide +kernel
theorem kc_196_1096 : xe_code 196 1096 = some (.aload_n 0, []) := by decide +kernel
theorem kc_196_1097 : xe_code 196 1097 = some (.iload 4, []) := by decide +kernel
theorem kc_196_1099 : xe_code 196 1099 = some (.iconst 3, []) := by decide +kernel
theorem kc_196_1100 : xe_code 196 1100 = some (.iadd, []) := by decide +kernel
theorem kc_196_1101 : xe_code 196 1101 = some (.iaload, []) := by decide +kernel
theorem kc_196_1102 : xe_code 196 1102 = some (.aload_n 0, []) := by decide +kernel
theorem kc_196_1103 : xe_code 196 1103 = some (.iload 4, []) := by decide +kernel
theorem kc_196_1105 : xe_code 196 1105 = some (.iconst 4, []) := by decide +kernel
theorem kc_196_1106 : xe_code 196 1106 = some (.iadd, []) := by decide +kernel
theorem kc_196_1107 : xe_code 196 1107 = some (.iaload, []) := by decide +kernel
theorem kc_196_1108 : xe_code 196 1108 = some (.aload_n 0, []) := by decide +kernel
theorem kc_196_1109 : xe_code 196 1109 = some (.iload 4, []) := by decide +kernel
theorem kc_196_1111 : xe_code 196 1111 = some (.iconst 5, []) := by decide +kernel
theorem kc_196_1112 : xe_code 196 1112 = some (.iadd, []) := by decide +kernel
theorem kc_196_1113 : xe_code 196 1113 = some (.iaload, []) := by decide +kernel
theorem kc_196_1114 : xe_code 196 1114 = some (.invokevirtual 127, [62, 5, 1349, 12]) := by decide +kernel
theorem kc_196_1117 : xe_code 196 1117 = some (.if_icmp .eq 411, [1528]) := by decide +kernel
theorem kc_196_1120 : xe_code 196 1120 = some (.iconst 0, []) := by decide +kernel
theorem kc_196_1121 : xe_code 196 1121 = some (.ireturn, []) := by decide +kernel
theorem kc_196_1122 : xe_code 196 1122 = some (.aload_n 1, []) := by decide +kernel
theorem kc_196_1123 : xe_code 196 1123 = some (.aload_n 0, []) := by decide +kernel
theorem kc_196_1124 : xe_code 196 1124 = some (.iload 4, []) := by decide +kernel
theorem kc_196_1126 : xe_code 196 1126 = some (.iconst 1, []) := by decide +kernel
theorem kc_196_1127 : xe_code 196 1127 = some (.iadd, []) := by decide +kernel
theorem kc_196_1128 : xe_code 196 1128 = some (.iaload, []) := by decide +kernel
theorem kc_196_1129 : xe_code 196 1129 = some (.aload_n 0, []) := by decide +kernel
theorem kc_196_1130 : xe_code 196 1130 = some (.iload 4, []) := by decide +kernel
theorem kc_196_1132 : xe_code 196 1132 = some (.iconst 2, []) := by decide +kernel
theorem kc_196_1133 : xe_code 196 1133 = some (.iadd, []) := by decide +kernel
theorem kc_196_1134 : xe_code 196 1134 = some (.iaload, []) := by decide +kernel
theorem kc_196_1135 : xe_code 196 1135 = some (.invokevirtual 128, [166, 2, 750, 0]) := by decide +kernel
theorem kc_196_1138 : xe_code 196 1138 = some (.aload_n 2, []) := by decide +kernel
theorem kc_196_1139 : xe_code 196 1139 = some (.aload_n 0, []) := by decide +kernel
theorem kc_196_1140 : xe_code 196 1140 = some (.iload 4, []) := by decide +kernel
theorem kc_196_1142 : xe_code 196 1142 = some (.iconst 1, []) := by decide +kernel
theorem kc_196_1143 : xe_code 196 1143 = some (.iadd, []) := by decide +kernel
theorem kc_196_1144 : xe_code 196 1144 = some (.iaload, []) := by decide +kernel
theorem kc_196_1145 : xe_code 196 1145 = some (.aload_n 0, []) := by decide +kernel
theorem kc_196_1146 : xe_code 196 1146 = some (.iload 4, []) := by decide +kernel
theorem kc_196_1148 : xe_code 196 1148 = some (.iconst 2, []) := by decide +kernel
theorem kc_196_1149 : xe_code 196 1149 = some (.iadd, []) := by decide +kernel
theorem kc_196_1150 : xe_code 196 1150 = some (.iaload, []) := by decide +kernel
theorem kc_196_1151 : xe_code 196 1151 = some (.invokevirtual 131, [63, 2, 1353, 12]) := by decide +kernel
theorem kc_196_1154 : xe_code 196 1154 = some (.if_icmp .eq 374, [1528]) := by decide +kernel
theorem kc_196_1157 : xe_code 196 1157 = some (.iconst 0, []) := by decide +kernel
theorem kc_196_1158 : xe_code 196 1158 = some (.ireturn, []) := by decide +kernel
theorem kc_196_1159 : xe_code 196 1159 = some (.aload_n 1, []) := by decide +kernel
theorem kc_196_1160 : xe_code 196 1160 = some (.aload_n 0, []) := by decide +kernel
theorem kc_196_1161 : xe_code 196 1161 = some (.iload 4, []) := by decide +kernel
theorem kc_196_1163 : xe_code 196 1163 = some (.iconst 1, []) := by decide +kernel
theorem kc_196_1164 : xe_code 196 1164 = some (.iadd, []) := by decide +kernel
theorem kc_196_1165 : xe_code 196 1165 = some (.iaload, []) := by decide +kernel
theorem kc_196_1166 : xe_code 196 1166 = some (.aload_n 0, []) := by decide +kernel
theorem kc_196_1167 : xe_code 196 1167 = some (.iload 4, []) := by decide +kernel
theorem kc_196_1169 : xe_code 196 1169 = some (.iconst 2, []) := by decide +kernel
theorem kc_196_1170 : xe_code 196 1170 = some (.iadd, []) := by decide +kernel
theorem kc_196_1171 : xe_code 196 1171 = some (.iaload, []) := by decide +kernel
theorem kc_196_1172 : xe_code 196 1172 = some (.aload_n 0, []) := by decide +kernel
theorem kc_196_1173 : xe_code 196 1173 = some (.iload 4, []) := by decide +kernel
theorem kc_196_1175 : xe_code 196 1175 = some (.iconst 3, []) := by decide +kernel
theorem kc_196_1176 : xe_code 196 1176 = some (.iadd, []) := by decide +kernel
theorem kc_196_1177 : xe_code 196 1177 = some (.iaload, []) := by decide +kernel
theorem kc_196_1178 : xe_code 196 1178 = some (.aload_n 0, []) := by decide +kernel
theorem kc_196_1179 : xe_code 196 1179 = some (.iload 4, []) := by decide +kernel
theorem kc_196_1181 : xe_code 196 1181 = some (.iconst 4, []) := by decide +kernel
theorem kc_196_1182 : xe_code 196 1182 = some (.iadd, []) := by decide +kernel
theorem kc_196_1183 : xe_code 196 1183 = some (.iaload, []) := by decide +kernel
theorem kc_196_1184 : xe_code 196 1184 = some (.invokevirtual 132, [168, 4, 758, 0]) := by decide +kernel
theorem kc_196_1187 : xe_code 196 1187 = some (.aload_n 2, []) := by decide +kernel
theorem kc_196_1188 : xe_code 196 1188 = some (.aload_n 0, []) := by decide +kernel
theorem kc_196_1189 : xe_code 196 1189 = some (.iload 4, []) := by decide +kernel
theorem kc_196_1191 : xe_code 196 1191 = some (.iconst 1, []) := by decide +kernel
theorem kc_196_1192 : xe_code 196 1192 = some (.iadd, []) := by decide +kernel
theorem kc_196_1193 : xe_code 196 1193 = some (.iaload, []) := by decide +kernel
theorem kc_196_1194 : xe_code 196 1194 = some (.aload_n 0, []) := by decide +kernel
theorem kc_196_1195 : xe_code 196 1195 = some (.iload 4, []) := by decide +kernel
theorem kc_196_1197 : xe_code 196 1197 = some (.iconst 2, []) := by decide +kernel
theorem kc_196_1198 : xe_code 196 1198 = some (.iadd, []) := by decide +kernel
theorem kc_196_1199 : xe_code 196 1199 = some (.iaload, []) := by decide +kernel
theorem kc_196_1200 : xe_code 196 1200 = some (.aload_n 0, []) := by decide +kernel
theorem kc_196_1201 : xe_code 196 1201 = some (.iload 4, []) := by decide +kernel
theorem kc_196_1203 : xe_code 196 1203 = some (.iconst 3, []) := by decide +kernel
theorem kc_196_1204 : xe_code 196 1204 = some (.iadd, []) := by decide +kernel
theorem kc_196_1205 : xe_code 196 1205 = some (.iaload, []) := by decide +kernel
theorem kc_196_1206 : xe_code 196 1206 = some (.aload_n 0, []) := by decide +kernel
theorem kc_196_1207 : xe_code 196 1207 = some (.iload 4, []) := by decide +kernel
theorem kc_196_1209 : xe_code 196 1209 = some (.iconst 4, []) := by decide +kernel
theorem kc_196_1210 : xe_code 196 1210 = some (.iadd, []) := by decide +kernel
theorem kc_196_1211 : xe_code 196 1211 = some (.iaload, []) := by decide +kernel
theorem kc_196_1212 : xe_code 196 1212 = some (.invokevirtual 135, [65, 4, 1361, 12]) := by decide +kernel
theorem kc_196_1215 : xe_code 196 1215 = some (.if_icmp .eq 313, [1528]) := by decide +kernel
theorem kc_196_1218 : xe_code 196 1218 = some (.iconst 0, []) := by decide +kernel
theorem kc_196_1219 : xe_code 196 1219 = some (.ireturn, []) := by decide +kernel
theorem kc_196_1220 : xe_code 196 1220 = some (.aload_n 1, []) := by decide +kernel
theorem kc_196_1221 : xe_code 196 1221 = some (.invokevirtual 136, [170, 0, 766, 0]) := by decide +kernel
theorem kc_196_1224 : xe_code 196 1224 = some (.aload_n 2, []) := by decide +kernel
theorem kc_196_1225 : xe_code 196 1225 = some (.invokevirtual 139, [66, 0, 1365, 12]) := by decide +kernel
theorem kc_196_1228 : xe_code 196 1228 = some (.if_icmp .eq 300, [1528]) := by decide +kernel
theorem kc_196_1231 : xe_code 196 1231 = some (.iconst 0, []) := by decide +kernel
theorem kc_196_1232 : xe_code 196 1232 = some (.ireturn, []) := by decide +kernel
theorem kc_196_1233 : xe_code 196 1233 = some (.aload_n 1, []) := by decide +kernel
theorem kc_196_1234 : xe_code 196 1234 = some (.aload_n 0, []) := by decide +kernel
theorem kc_196_1235 : xe_code 196 1235 = some (.iload 4, []) := by decide +kernel
theorem kc_196_1237 : xe_code 196 1237 = some (.iconst 1, []) := by decide +kernel
theorem kc_196_1238 : xe_code 196 1238 = some (.iadd, []) := by decide +kernel
theorem kc_196_1239 : xe_code 196 1239 = some (.iaload, []) := by decide +kernel
theorem kc_196_1240 : xe_code 196 1240 = some (.invokevirtual 140, [173, 1, 779, 0]) := by decide +kernel
theorem kc_196_1243 : xe_code 196 1243 = some (.aload_n 2, []) := by decide +kernel
theorem kc_196_1244 : xe_code 196 1244 = some (.aload_n 0, []) := by decide +kernel
theorem kc_196_1245 : xe_code 196 1245 = some (.iload 4, []) := by decide +kernel
theorem kc_196_1247 : xe_code 196 1247 = some (.iconst 1, []) := by decide +kernel
theorem kc_196_1248 : xe_code 196 1248 = some (.iadd, []) := by decide +kernel
theorem kc_196_1249 : xe_code 196 1249 = some (.iaload, []) := by decide +kernel
theorem kc_196_1250 : xe_code 196 1250 = some (.invokevirtual 143, [69, 1, 1377, 12]) := by decide +kernel
theorem kc_196_1253 : xe_code 196 1253 = some (.if_icmp .eq 275, [1528]) := by decide +kernel
theorem kc_196_1256 : xe_code 196 1256 = some (.iconst 0, []) := by decide +kernel
theorem kc_196_1257 : xe_code 196 1257 = some (.ireturn, []) := by decide +kernel
theorem kc_196_1258 : xe_code 196 1258 = some (.aload_n 1, []) := by decide +kernel
theorem kc_196_1259 : xe_code 196 1259 = some (.aload_n 0, []) := by decide +kernel
theorem kc_196_1260 : xe_code 196 1260 = some (.iload 4, []) := by decide +kernel
theorem kc_196_1262 : xe_code 196 1262 = some (.iconst 1, []) := by decide +kernel
theorem kc_196_1263 : xe_code 196 1263 = some (.iadd, []) := by decide +kernel
theorem kc_196_1264 : xe_code 196 1264 = some (.iaload, []) := by decide +kernel
theorem kc_196_1265 : xe_code 196 1265 = some (.aload_n 0, []) := by decide +kernel
theorem kc_196_1266 : xe_code 196 1266 = some (.iload 4, []) := by decide +kernel
theorem kc_196_1268 : xe_code 196 1268 = some (.iconst 2, []) := by decide +kernel
theorem kc_196_1269 : xe_code 196 1269 = some (.iadd, []) := by decide +kernel
theorem kc_196_1270 : xe_code 196 1270 = some (.iaload, []) := by decide +kernel
theorem kc_196_1271 : xe_code 196 1271 = some (.aload_n 0, []) := by decide +kernel
theorem kc_196_1272 : xe_code 196 1272 = some (.iload 4, []) := by decide +kernel
theorem kc_196_1274 : xe_code 196 1274 = some (.iconst 3, []) := by decide +kernel
theorem kc_196_1275 : xe_code 196 1275 = some (.iadd, []) := by decide +kernel
theorem kc_196_1276 : xe_code 196 1276 = some (.iaload, []) := by decide +kernel
theorem kc_196_1277 : xe_code 196 1277 = some (.aload_n 0, []) := by decide +kernel
theorem kc_196_1278 : xe_code 196 1278 = some (.iload 4, []) := by decide +kernel
theorem kc_196_1280 : xe_code 196 1280 = some (.iconst 4, []) := by decide +kernel
theorem kc_196_1281 : xe_code 196 1281 = some (.iadd, []) := by decide +kernel
theorem kc_196_1282 : xe_code 196 1282 = some (.iaload, []) := by decide +kernel
theorem kc_196_1283 : xe_code 196 1283 = some (.invokevirtual 144, [178, 4, 800, 0]) := by decide +kernel
theorem kc_196_1286 : xe_code 196 1286 = some (.aload_n 2, []) := by decide +kernel
theorem kc_196_1287 : xe_code 196 1287 = some (.aload_n 0, []) := by decide +kernel
theorem kc_196_1288 : xe_code 196 1288 = some (.iload 4, []) := by decide +kernel
theorem kc_196_1290 : xe_code 196 1290 = some (.iconst 1, []) := by decide +kernel
theorem kc_196_1291 : xe_code 196 1291 = some (.iadd, []) := by decide +kernel
theorem kc_196_1292 : xe_code 196 1292 = some (.iaload, []) := by decide +kernel
theorem kc_196_1293 : xe_code 196 1293 = some (.aload_n 0, []) := by decide +kernel
theorem kc_196_1294 : xe_code 196 1294 = some (.iload 4, []) := by decide +kernel
theorem kc_196_1296 : xe_code 196 1296 = some (.iconst 2, []) := by decide +kernel
theorem kc_196_1297 : xe_code 196 1297 = some (.iadd, []) := by decide +kernel
theorem kc_196_1298 : xe_code 196 1298 = some (.iaload, []) := by decide +kernel
theorem kc_196_1299 : xe_code 196 1299 = some (.aload_n 0, []) := by decide +kernel
theorem kc_196_1300 : xe_code 196 1300 = some (.iload 4, []) := by decide +kernel
theorem kc_196_1302 : xe_code 196 1302 = some (.iconst 3, []) := by decide +kernel
theorem kc_196_1303 : xe_code 196 1303 = some (.iadd, []) := by decide +kernel
theorem kc_196_1304 : xe_code 196 1304 = some (.iaload, []) := by decide +kernel
theorem kc_196_1305 : xe_code 196 1305 = some (.aload_n 0, []) := by decide +kernel
theorem kc_196_1306 : xe_code 196 1306 = some (.iload 4, []) := by decide +kernel
theorem kc_196_1308 : xe_code 196 1308 = some (.iconst 4, []) := by decide +kernel
theorem kc_196_1309 : xe_code 196 1309 = some (.iadd, []) := by decide +kernel
theorem kc_196_1310 : xe_code 196 1310 = some (.iaload, []) := by decide +kernel
theorem kc_196_1311 : xe_code 196 1311 = some (.invokevirtual 147, [71, 4, 1385, 12]) := by decide +kernel
theorem kc_196_1314 : xe_code 196 1314 = some (.if_icmp .eq 214, [1528]) := by decide +kernel
theorem kc_196_1317 : xe_code 196 1317 = some (.iconst 0, []) := by decide +kernel
theorem kc_196_1318 : xe_code 196 1318 = some (.ireturn, []) := by decide +kernel
theorem kc_196_1319 : xe_code 196 1319 = some (.aload_n 1, []) := by decide +kernel
theorem kc_196_1320 : xe_code 196 1320 = some (.aload_n 0, []) := by decide +kernel
theorem kc_196_1321 : xe_code 196 1321 = some (.iload 4, []) := by decide +kernel
theorem kc_196_1323 : xe_code 196 1323 = some (.iconst 1, []) := by decide +kernel
theorem kc_196_1324 : xe_code 196 1324 = some (.iadd, []) := by decide +kernel
theorem kc_196_1325 : xe_code 196 1325 = some (.iaload, []) := by decide +kernel
theorem kc_196_1326 : xe_code 196 1326 = some (.ifCond .eq 7, [1333]) := by decide +kernel
theorem kc_196_1329 : xe_code 196 1329 = some (.iconst 1, []) := by decide +kernel
theorem kc_196_1330 : xe_code 196 1330 = some (.goto 4, [1334]) := by decide +kernel
theorem kc_196_1333 : xe_code 196 1333 = some (.iconst 0, []) := by decide +kernel
theorem kc_196_1334 : xe_code 196 1334 = some (.invokevirtual 148, [180, 1, 808, 0]) := by decide +kernel
theorem kc_196_1337 : xe_code 196 1337 = some (.aload_n 2, []) := by decide +kernel
theorem kc_196_1338 : xe_code 196 1338 = some (.aload_n 0, []) := by decide +kernel
theorem kc_196_1339 : xe_code 196 1339 = some (.iload 4, []) := by decide +kernel
theorem kc_196_1341 : xe_code 196 1341 = some (.iconst 1, []) := by decide +kernel
theorem kc_196_1342 : xe_code 196 1342 = some (.iadd, []) := by decide +kernel
theorem kc_196_1343 : xe_code 196 1343 = some (.iaload, []) := by decide +kernel
theorem kc_196_1344 : xe_code 196 1344 = some (.ifCond .eq 7, [1351]) := by decide +kernel
theorem kc_196_1347 : xe_code 196 1347 = some (.iconst 1, []) := by decide +kernel
theorem kc_196_1348 : xe_code 196 1348 = some (.goto 4, [1352]) := by decide +kernel
theorem kc_196_1351 : xe_code 196 1351 = some (.iconst 0, []) := by decide +kernel
theorem kc_196_1352 : xe_code 196 1352 = some (.invokevirtual 152, [72, 1, 1389, 12]) := by decide +kernel
theorem kc_196_1355 : xe_code 196 1355 = some (.if_icmp .eq 173, [1528]) := by decide +kernel
theorem kc_196_1358 : xe_code 196 1358 = some (.iconst 0, []) := by decide +kernel
theorem kc_196_1359 : xe_code 196 1359 = some (.ireturn, []) := by decide +kernel
theorem kc_196_1360 : xe_code 196 1360 = some (.aload_n 1, []) := by decide +kernel
theorem kc_196_1361 : xe_code 196 1361 = some (.aload_n 0, []) := by decide +kernel
theorem kc_196_1362 : xe_code 196 1362 = some (.iload 4, []) := by decide +kernel
theorem kc_196_1364 : xe_code 196 1364 = some (.iconst 1, []) := by decide +kernel
theorem kc_196_1365 : xe_code 196 1365 = some (.iadd, []) := by decide +kernel
theorem kc_196_1366 : xe_code 196 1366 = some (.iaload, []) := by decide +kernel
theorem kc_196_1367 : xe_code 196 1367 = some (.ifCond .eq 7, [1374]) := by decide +kernel
theorem kc_196_1370 : xe_code 196 1370 = some (.iconst 1, []) := by decide +kernel
theorem kc_196_1371 : xe_code 196 1371 = some (.goto 4, [1375]) := by decide +kernel
theorem kc_196_1374 : xe_code 196 1374 = some (.iconst 0, []) := by decide +kernel
theorem kc_196_1375 : xe_code 196 1375 = some (.aload_n 0, []) := by decide +kernel
theorem kc_196_1376 : xe_code 196 1376 = some (.iload 4, []) := by decide +kernel
theorem kc_196_1378 : xe_code 196 1378 = some (.iconst 2, []) := by decide +kernel
theorem kc_196_1379 : xe_code 196 1379 = some (.iadd, []) := by decide +kernel
theorem kc_196_1380 : xe_code 196 1380 = some (.iaload, []) := by decide +kernel
theorem kc_196_1381 : xe_code 196 1381 = some (.aload_n 0, []) := by decide +kernel
theorem kc_196_1382 : xe_code 196 1382 = some (.iload 4, []) := by decide +kernel
theorem kc_196_1384 : xe_code 196 1384 = some (.iconst 3, []) := by decide +kernel
theorem kc_196_1385 : xe_code 196 1385 = some (.iadd, []) := by decide +kernel
theorem kc_196_1386 : xe_code 196 1386 = some (.iaload, []) := by decide +kernel
theorem kc_196_1387 : xe_code 196 1387 = some (.ifCond .eq 7, [1394]) := by decide +kernel
theorem kc_196_1390 : xe_code 196 1390 = some (.iconst 1, []) := by decide +kernel
theorem kc_196_1391 : xe_code 196 1391 = some (.goto 4, [1395]) := by decide +kernel
theorem kc_196_1394 : xe_code 196 1394 = some (.iconst 0, []) := by decide +kernel
theorem kc_196_1395 : xe_code 196 1395 = some (.invokevirtual 153, [181, 3, 812, 0]) := by decide +kernel
theorem kc_196_1398 : xe_code 196 1398 = some (.aload_n 2, []) := by decide +kernel
theorem kc_196_1399 : xe_code 196 1399 = some (.aload_n 0, []) := by decide +kernel
theorem kc_196_1400 : xe_code 196 1400 = some (.iload 4, []) := by decide +kernel
theorem kc_196_1402 : xe_code 196 1402 = some (.iconst 1, []) := by decide +kernel
theorem kc_196_1403 : xe_code 196 1403 = some (.iadd, []) := by decide +kernel
theorem kc_196_1404 : xe_code 196 1404 = some (.iaload, []) := by decide +kernel
theorem kc_196_1405 : xe_code 196 1405 = some (.ifCond .eq 7, [1412]) := by decide +kernel
theorem kc_196_1408 : xe_code 196 1408 = some (.iconst 1, []) := by decide +kernel
theorem kc_196_1409 : xe_code 196 1409 = some (.goto 4, [1413]) := by decide +kernel
theorem kc_196_1412 : xe_code 196 1412 = some (.iconst 0, []) := by decide +kernel
theorem kc_196_1413 : xe_code 196 1413 = some (.aload_n 0, []) := by decide +kernel
theorem kc_196_1414 : xe_code 196 1414 = some (.iload 4, []) := by decide +kernel
theorem kc_196_1416 : xe_code 196 1416 = some (.iconst 2, []) := by decide +kernel
theorem kc_196_1417 : xe_code 196 1417 = some (.iadd, []) := by decide +kernel
theorem kc_196_1418 : xe_code 196 1418 = some (.iaload, []) := by decide +kernel
theorem kc_196_1419 : xe_code 196 1419 = some (.aload_n 0, []) := by decide +kernel
theorem kc_196_1420 : xe_code 196 1420 = some (.iload 4, []) := by decide +kernel
theorem kc_196_1422 : xe_code 196 1422 = some (.iconst 3, []) := by decide +kernel
theorem kc_196_1423 : xe_code 196 1423 = some (.iadd, []) := by decide +kernel
theorem kc_196_1424 : xe_code 196 1424 = some (.iaload, []) := by decide +kernel
theorem kc_196_1425 : xe_code 196 1425 = some (.ifCond .eq 7, [1432]) := by decide +kernel
theorem kc_196_1428 : xe_code 196 1428 = some (.iconst 1, []) := by decide +kernel
theorem kc_196_1429 : xe_code 196 1429 = some (.goto 4, [1433]) := by decide +kernel
theorem kc_196_1432 : xe_code 196 1432 = some (.iconst 0, []) := by decide +kernel
theorem kc_196_1433 : xe_code 196 1433 = some (.invokevirtual 157, [73, 3, 1393, 12]) := by decide +kernel
theorem kc_196_1436 : xe_code 196 1436 = some (.if_icmp .eq 92, [1528]) := by decide +kernel
theorem kc_196_1439 : xe_code 196 1439 = some (.iconst 0, []) := by decide +kernel
theorem kc_196_1440 : xe_code 196 1440 = some (.ireturn, []) := by decide +kernel
theorem kc_196_1441 : xe_code 196 1441 = some (.aload_n 1, []) := by decide +kernel
theorem kc_196_1442 : xe_code 196 1442 = some (.aload_n 0, []) := by decide +kernel
theorem kc_196_1443 : xe_code 196 1443 = some (.iload 4, []) := by decide +kernel
theorem kc_196_1445 : xe_code 196 1445 = some (.iconst 1, []) := by decide +kernel
theorem kc_196_1446 : xe_code 196 1446 = some (.iadd, []) := by decide +kernel
theorem kc_196_1447 : xe_code 196 1447 = some (.iaload, []) := by decide +kernel
theorem kc_196_1448 : xe_code 196 1448 = some (.aload_n 0, []) := by decide +kernel
theorem kc_196_1449 : xe_code 196 1449 = some (.iload 4, []) := by decide +kernel
theorem kc_196_1451 : xe_code 196 1451 = some (.iconst 2, []) := by decide +kernel
theorem kc_196_1452 : xe_code 196 1452 = some (.iadd, []) := by decide +kernel
theorem kc_196_1453 : xe_code 196 1453 = some (.iaload, []) := by decide +kernel
theorem kc_196_1454 : xe_code 196 1454 = some (.invokevirtual 158, [183, 2, 821, 0]) := by decide +kernel
theorem kc_196_1457 : xe_code 196 1457 = some (.aload_n 2, []) := by decide +kernel
theorem kc_196_1458 : xe_code 196 1458 = some (.aload_n 0, []) := by decide +kernel
theorem kc_196_1459 : xe_code 196 1459 = some (.iload 4, []) := by decide +kernel
theorem kc_196_1461 : xe_code 196 1461 = some (.iconst 1, []) := by decide +kernel
theorem kc_196_1462 : xe_code 196 1462 = some (.iadd, []) := by decide +kernel
theorem kc_196_1463 : xe_code 196 1463 = some (.iaload, []) := by decide +kernel
theorem kc_196_1464 : xe_code 196 1464 = some (.aload_n 0, []) := by decide +kernel
theorem kc_196_1465 : xe_code 196 1465 = some (.iload 4, []) := by decide +kernel
theorem kc_196_1467 : xe_code 196 1467 = some (.iconst 2, []) := by decide +kernel
theorem kc_196_1468 : xe_code 196 1468 = some (.iadd, []) := by decide +kernel
theorem kc_196_1469 : xe_code 196 1469 = some (.iaload, []) := by decide +kernel
theorem kc_196_1470 : xe_code 196 1470 = some (.invokevirtual 161, [74, 2, 1397, 12]) := by decide +kernel
theorem kc_196_1473 : xe_code 196 1473 = some (.if_icmp .eq 55, [1528]) := by decide +kernel
theorem kc_196_1476 : xe_code 196 1476 = some (.iconst 0, []) := by decide +kernel
theorem kc_196_1477 : xe_code 196 1477 = some (.ireturn, []) := by decide +kernel
theorem kc_196_1478 : xe_code 196 1478 = some (.aload_n 1, []) := by decide +kernel
theorem kc_196_1479 : xe_code 196 1479 = some (.aload_n 0, []) := by decide +kernel
theorem kc_196_1480 : xe_code 196 1480 = some (.iload 4, []) := by decide +kernel
theorem kc_196_1482 : xe_code 196 1482 = some (.iconst 1, []) := by decide +kernel
theorem kc_196_1483 : xe_code 196 1483 = some (.iadd, []) := by decide +kernel
theorem kc_196_1484 : xe_code 196 1484 = some (.iaload, []) := by decide +kernel
theorem kc_196_1485 : xe_code 196 1485 = some (.invokevirtual 162, [189, 1, 845, 0]) := by decide +kernel
theorem kc_196_1488 : xe_code 196 1488 = some (.aload_n 2, []) := by decide +kernel
theorem kc_196_1489 : xe_code 196 1489 = some (.aload_n 0, []) := by decide +kernel
theorem kc_196_1490 : xe_code 196 1490 = some (.iload 4, []) := by decide +kernel
theorem kc_196_1492 : xe_code 196 1492 = some (.iconst 1, []) := by decide +kernel
theorem kc_196_1493 : xe_code 196 1493 = some (.iadd, []) := by decide +kernel
theorem kc_196_1494 : xe_code 196 1494 = some (.iaload, []) := by decide +kernel
theorem kc_196_1495 : xe_code 196 1495 = some (.invokevirtual 165, [75, 1, 1401, 12]) := by decide +kernel
theorem kc_196_1498 : xe_code 196 1498 = some (.if_icmp .eq 30, [1528]) := by decide +kernel
theorem kc_196_1501 : xe_code 196 1501 = some (.iconst 0, []) := by decide +kernel
theorem kc_196_1502 : xe_code 196 1502 = some (.ireturn, []) := by decide +kernel
theorem kc_196_1503 : xe_code 196 1503 = some (.aload_n 1, []) := by decide +kernel
theorem kc_196_1504 : xe_code 196 1504 = some (.aload_n 0, []) := by decide +kernel
theorem kc_196_1505 : xe_code 196 1505 = some (.iload 4, []) := by decide +kernel
theorem kc_196_1507 : xe_code 196 1507 = some (.iconst 1, []) := by decide +kernel
theorem kc_196_1508 : xe_code 196 1508 = some (.iadd, []) := by decide +kernel
theorem kc_196_1509 : xe_code 196 1509 = some (.iaload, []) := by decide +kernel
theorem kc_196_1510 : xe_code 196 1510 = some (.invokevirtual 166, [191, 1, 853, 0]) := by decide +kernel
theorem kc_196_1513 : xe_code 196 1513 = some (.aload_n 2, []) := by decide +kernel
theorem kc_196_1514 : xe_code 196 1514 = some (.aload_n 0, []) := by decide +kernel
theorem kc_196_1515 : xe_code 196 1515 = some (.iload 4, []) := by decide +kernel
theorem kc_196_1517 : xe_code 196 1517 = some (.iconst 1, []) := by decide +kernel
theorem kc_196_1518 : xe_code 196 1518 = some (.iadd, []) := by decide +kernel
theorem kc_196_1519 : xe_code 196 1519 = some (.iaload, []) := by decide +kernel
theorem kc_196_1520 : xe_code 196 1520 = some (.invokevirtual 169, [76, 1, 1405, 12]) := by decide +kernel
theorem kc_196_1523 : xe_code 196 1523 = some (.if_icmp .eq 5, [1528]) := by decide +kernel
theorem kc_196_1526 : xe_code 196 1526 = some (.iconst 0, []) := by decide +kernel
theorem kc_196_1527 : xe_code 196 1527 = some (.ireturn, []) := by decide +kernel
theorem kc_196_1528 : xe_code 196 1528 = some (.iinc 4 6, []) := by decide +kernel
theorem kc_196_1531 : xe_code 196 1531 = some (.goto (-1508), [23]) := by decide +kernel
theorem kc_196_1534 : xe_code 196 1534 = some (.iconst 1, []) := by decide +kernel
theorem kc_196_1535 : xe_code 196 1535 = some (.ireturn, []) := by decide +kernel
