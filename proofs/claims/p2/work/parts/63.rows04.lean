theorem kc_181_13 : xe_code 181 13 = some (.getfield 27, [5, 5, 318]) := by decide +kernel
theorem kc_181_16 : xe_code 181 16 = some (.goto 7, [23]) := by decide +kernel
theorem kc_181_19 : xe_code 181 19 = some (.aload_n 0, []) := by decide +kernel
theorem kc_181_20 : xe_code 181 20 = some (.getfield 24, [5, 4, 317]) := by decide +kernel
theorem kc_181_23 : xe_code 181 23 = some (.astore 5, []) := by decide +kernel
theorem kc_181_25 : xe_code 181 25 = some (.aload 5, []) := by decide +kernel
theorem kc_181_27 : xe_code 181 27 = some (.iload_n 2, []) := by decide +kernel
theorem kc_181_28 : xe_code 181 28 = some (.iload_n 3, []) := by decide +kernel
theorem kc_181_29 : xe_code 181 29 = some (.ifCond .eq 7, [36]) := by decide +kernel
theorem kc_181_32 : xe_code 181 32 = some (.iconst 1, []) := by decide +kernel
theorem kc_181_33 : xe_code 181 33 = some (.goto 4, [37]) := by decide +kernel
theorem kc_181_36 : xe_code 181 36 = some (.iconst 2, []) := by decide +kernel
theorem kc_181_37 : xe_code 181 37 = some (.iastore, []) := by decide +kernel
theorem kc_181_38 : xe_code 181 38 = some (.iload_n 3, []) := by decide +kernel
theorem kc_181_39 : xe_code 181 39 = some (.ifCond .eq 11, [50]) := by decide +kernel
theorem kc_181_42 : xe_code 181 42 = some (.aload_n 0, []) := by decide +kernel
theorem kc_181_43 : xe_code 181 43 = some (.getfield 30, [5, 6, 319]) := by decide +kernel
theorem kc_181_46 : xe_code 181 46 = some (.iload_n 2, []) := by decide +kernel
theorem kc_181_47 : xe_code 181 47 = some (.iload 4, []) := by decide +kernel
theorem kc_181_49 : xe_code 181 49 = some (.iastore, []) := by decide +kernel
theorem kc_181_50 : xe_code 181 50 = some (.return_, []) := by decide +kernel
theorem kc_182_0 : xe_code 182 0 = some (.iload_n 1, []) := by decide +kernel
theorem kc_182_1 : xe_code 182 1 = some (.invokestatic 171, [117, 1, 529, 0]) := by decide +kernel
theorem kc_182_4 : xe_code 182 4 = some (.ifCond .eq 12, [16]) := by decide +kernel
theorem kc_182_7 : xe_code 182 7 = some (.iload_n 2, []) := by decide +kernel
theorem kc_182_8 : xe_code 182 8 = some (.ifCond .eq 15, [23]) := by decide +kernel
theorem kc_182_11 : xe_code 182 11 = some (.iload_n 2, []) := by decide +kernel
theorem kc_182_12 : xe_code 182 12 = some (.iconst 1, []) := by decide +kernel
theorem kc_182_13 : xe_code 182 13 = some (.if_icmp .eq 10, [23]) := by decide +kernel
theorem kc_182_16 : xe_code 182 16 = some (.aload_n 0, []) := by decide +kernel
theorem kc_182_17 : xe_code 182 17 = some (.bipush (-2), []) := by decide +kernel
theorem kc_182_19 : xe_code 182 19 = some (.invokevirtual 72, [90, 1, 407, 0]) := by decide +kernel
theorem kc_182_22 : xe_code 182 22 = some (.ireturn, []) := by decide +kernel
theorem kc_182_23 : xe_code 182 23 = some (.aload_n 0, []) := by decide +kernel
theorem kc_182_24 : xe_code 182 24 = some (.getfield 10, [0, 0, 369]) := by decide +kernel
theorem kc_182_27 : xe_code 182 27 = some (.aload_n 0, []) := by decide +kernel
theorem kc_182_28 : xe_code 182 28 = some (.getfield 28, [0, 2, 371]) := by decide +kernel
theorem kc_182_31 : xe_code 182 31 = some (.invokevirtual 207, [145, 0, 648, 3]) := by decide +kernel
theorem kc_182_34 : xe_code 182 34 = some (.iload_n 1, []) := by decide +kernel
theorem kc_182_35 : xe_code 182 35 = some (.invokevirtual 282, [183, 2, 825, 4]) := by decide +kernel
theorem kc_182_38 : xe_code 182 38 = some (.ifCond .ne 6, [44]) := by decide +kernel
theorem kc_182_41 : xe_code 182 41 = some (.bipush (-9), []) := by decide +kernel
theorem kc_182_43 : xe_code 182 43 = some (.ireturn, []) := by decide +kernel
theorem kc_182_44 : xe_code 182 44 = some (.aload_n 0, []) := by decide +kernel
theorem kc_182_45 : xe_code 182 45 = some (.getfield 49, [0, 5, 374]) := by decide +kernel
theorem kc_182_48 : xe_code 182 48 = some (.iload_n 1, []) := by decide +kernel
theorem kc_182_49 : xe_code 182 49 = some (.aload_n 0, []) := by decide +kernel
theorem kc_182_50 : xe_code 182 50 = some (.getfield 148, [0, 9, 378]) := by decide +kernel
theorem kc_182_53 : xe_code 182 53 = some (.invokevirtual 285, [184, 2, 829, 5]) := by decide +kernel
theorem kc_182_56 : xe_code 182 56 = some (.istore_n 3, []) := by decide +kernel
theorem kc_182_57 : xe_code 182 57 = some (.aload_n 0, []) := by decide +kernel
theorem kc_182_58 : xe_code 182 58 = some (.getfield 49, [0, 5, 374]) := by decide +kernel
theorem kc_182_61 : xe_code 182 61 = some (.iload_n 1, []) := by decide +kernel
theorem kc_182_62 : xe_code 182 62 = some (.iload_n 3, []) := by decide +kernel
theorem kc_182_63 : xe_code 182 63 = some (.invokevirtual 288, [185, 2, 833, 5]) := by decide +kernel
theorem kc_182_66 : xe_code 182 66 = some (.istore 4, []) := by decide +kernel
theorem kc_182_68 : xe_code 182 68 = some (.iload 4, []) := by decide +kernel
theorem kc_182_70 : xe_code 182 70 = some (.bipush (-9), []) := by decide +kernel
theorem kc_182_72 : xe_code 182 72 = some (.if_icmp .ne 6, [78]) := by decide +kernel
theorem kc_182_75 : xe_code 182 75 = some (.bipush (-9), []) := by decide +kernel
theorem kc_182_77 : xe_code 182 77 = some (.ireturn, []) := by decide +kernel
theorem kc_182_78 : xe_code 182 78 = some (.iload_n 2, []) := by decide +kernel
theorem kc_182_79 : xe_code 182 79 = some (.ifCond .ne 17, [96]) := by decide +kernel
theorem kc_182_82 : xe_code 182 82 = some (.iload_n 3, []) := by decide +kernel
theorem kc_182_83 : xe_code 182 83 = some (.aload_n 0, []) := by decide +kernel
theorem kc_182_84 : xe_code 182 84 = some (.getfield 49, [0, 5, 374]) := by decide +kernel
theorem kc_182_87 : xe_code 182 87 = some (.iload 4, []) := by decide +kernel
theorem kc_182_89 : xe_code 182 89 = some (.invokevirtual 291, [186, 1, 837, 5]) := by decide +kernel
theorem kc_182_92 : xe_code 182 92 = some (.iadd, []) := by decide +kernel
theorem kc_182_93 : xe_code 182 93 = some (.goto 12, [105]) := by decide +kernel
theorem kc_182_96 : xe_code 182 96 = some (.aload_n 0, []) := by decide +kernel
theorem kc_182_97 : xe_code 182 97 = some (.getfield 49, [0, 5, 374]) := by decide +kernel
theorem kc_182_100 : xe_code 182 100 = some (.iload 4, []) := by decide +kernel
theorem kc_182_102 : xe_code 182 102 = some (.invokevirtual 294, [187, 1, 841, 5]) := by decide +kernel
theorem kc_182_105 : xe_code 182 105 = some (.ireturn, []) := by decide +kernel
theorem kc_183_0 : xe_code 183 0 = some (.iconst 0, []) := by decide +kernel
theorem kc_183_1 : xe_code 183 1 = some (.istore_n 3, []) := by decide +kernel
theorem kc_183_2 : xe_code 183 2 = some (.iload_n 3, []) := by decide +kernel
theorem kc_183_3 : xe_code 183 3 = some (.aload_n 0, []) := by decide +kernel
theorem kc_183_4 : xe_code 183 4 = some (.getfield 79, [4, 5, 177]) := by decide +kernel
theorem kc_183_7 : xe_code 183 7 = some (.if_icmp .ge 38, [45]) := by decide +kernel
theorem kc_183_10 : xe_code 183 10 = some (.iload_n 3, []) := by decide +kernel
theorem kc_183_11 : xe_code 183 11 = some (.bipush 10, []) := by decide +kernel
theorem kc_183_13 : xe_code 183 13 = some (.if_icmp .ge 32, [45]) := by decide +kernel
theorem kc_183_16 : xe_code 183 16 = some (.iload_n 1, []) := by decide +kernel
theorem kc_183_17 : xe_code 183 17 = some (.iload_n 3, []) := by decide +kernel
theorem kc_183_18 : xe_code 183 18 = some (.ishr, []) := by decide +kernel
theorem kc_183_19 : xe_code 183 19 = some (.iconst 1, []) := by decide +kernel
theorem kc_183_20 : xe_code 183 20 = some (.iand, []) := by decide +kernel
theorem kc_183_21 : xe_code 183 21 = some (.ifCond .eq 18, [39]) := by decide +kernel
theorem kc_183_24 : xe_code 183 24 = some (.aload_n 0, []) := by decide +kernel
theorem kc_183_25 : xe_code 183 25 = some (.getfield 25, [4, 2, 174]) := by decide +kernel
theorem kc_183_28 : xe_code 183 28 = some (.iload_n 3, []) := by decide +kernel
theorem kc_183_29 : xe_code 183 29 = some (.aaload, []) := by decide +kernel
theorem kc_183_30 : xe_code 183 30 = some (.getfield 82, [1, 0, 157]) := by decide +kernel
theorem kc_183_33 : xe_code 183 33 = some (.iload_n 2, []) := by decide +kernel
theorem kc_183_34 : xe_code 183 34 = some (.if_icmp .ne 5, [39]) := by decide +kernel
theorem kc_183_37 : xe_code 183 37 = some (.iconst 1, []) := by decide +kernel
theorem kc_183_38 : xe_code 183 38 = some (.ireturn, []) := by decide +kernel
theorem kc_183_39 : xe_code 183 39 = some (.iinc 3 1, []) := by decide +kernel
theorem kc_183_42 : xe_code 183 42 = some (.goto (-40), [2]) := by decide +kernel
theorem kc_183_45 : xe_code 183 45 = some (.iconst 0, []) := by decide +kernel
theorem kc_183_46 : xe_code 183 46 = some (.ireturn, []) := by decide +kernel
theorem kc_184_0 : xe_code 184 0 = some (.iload_n 1, []) := by decide +kernel
theorem kc_184_1 : xe_code 184 1 = some (.invokestatic 43, [117, 1, 820, 0]) := by decide +kernel
theorem kc_184_4 : xe_code 184 4 = some (.ifCond .eq 18, [22]) := by decide +kernel
theorem kc_184_7 : xe_code 184 7 = some (.aload_n 0, []) := by decide +kernel
theorem kc_184_8 : xe_code 184 8 = some (.getfield 30, [5, 6, 319]) := by decide +kernel
theorem kc_184_11 : xe_code 184 11 = some (.iload_n 1, []) := by decide +kernel
theorem kc_184_12 : xe_code 184 12 = some (.iaload, []) := by decide +kernel
theorem kc_184_13 : xe_code 184 13 = some (.bipush (-9), []) := by decide +kernel
theorem kc_184_15 : xe_code 184 15 = some (.if_icmp .eq 7, [22]) := by decide +kernel
theorem kc_184_18 : xe_code 184 18 = some (.iconst 1, []) := by decide +kernel
theorem kc_184_19 : xe_code 184 19 = some (.goto 4, [23]) := by decide +kernel
theorem kc_184_22 : xe_code 184 22 = some (.iconst 0, []) := by decide +kernel
theorem kc_184_23 : xe_code 184 23 = some (.istore_n 3, []) := by decide +kernel
theorem kc_184_24 : xe_code 184 24 = some (.iload_n 3, []) := by decide +kernel
theorem kc_184_25 : xe_code 184 25 = some (.ifCond .eq 12, [37]) := by decide +kernel
theorem kc_184_28 : xe_code 184 28 = some (.aload_n 0, []) := by decide +kernel
theorem kc_184_29 : xe_code 184 29 = some (.getfield 30, [5, 6, 319]) := by decide +kernel
theorem kc_184_32 : xe_code 184 32 = some (.iload_n 1, []) := by decide +kernel
theorem kc_184_33 : xe_code 184 33 = some (.iaload, []) := by decide +kernel
theorem kc_184_34 : xe_code 184 34 = some (.goto 4, [38]) := by decide +kernel
theorem kc_184_37 : xe_code 184 37 = some (.iload_n 2, []) := by decide +kernel
theorem kc_184_38 : xe_code 184 38 = some (.bipush 24, []) := by decide +kernel
theorem kc_184_40 : xe_code 184 40 = some (.idiv, []) := by decide +kernel
theorem kc_184_41 : xe_code 184 41 = some (.ireturn, []) := by decide +kernel
theorem kc_185_0 : xe_code 185 0 = some (.bipush (-9), []) := by decide +kernel
theorem kc_185_2 : xe_code 185 2 = some (.istore_n 3, []) := by decide +kernel
theorem kc_185_3 : xe_code 185 3 = some (.bipush (-9), []) := by decide +kernel
theorem kc_185_5 : xe_code 185 5 = some (.istore 4, []) := by decide +kernel
theorem kc_185_7 : xe_code 185 7 = some (.iconst 0, []) := by decide +kernel
theorem kc_185_8 : xe_code 185 8 = some (.istore 5, []) := by decide +kernel
theorem kc_185_10 : xe_code 185 10 = some (.iload 5, []) := by decide +kernel
theorem kc_185_12 : xe_code 185 12 = some (.aload_n 0, []) := by decide +kernel
theorem kc_185_13 : xe_code 185 13 = some (.getfield 39, [5, 8, 322]) := by decide +kernel
theorem kc_185_16 : xe_code 185 16 = some (.if_icmp .ge 62, [78]) := by decide +kernel
theorem kc_185_19 : xe_code 185 19 = some (.iload 5, []) := by decide +kernel
theorem kc_185_21 : xe_code 185 21 = some (.bipush 12, []) := by decide +kernel
theorem kc_185_23 : xe_code 185 23 = some (.if_icmp .ge 55, [78]) := by decide +kernel
theorem kc_185_26 : xe_code 185 26 = some (.aload_n 0, []) := by decide +kernel
theorem kc_185_27 : xe_code 185 27 = some (.getfield 15, [5, 1, 314]) := by decide +kernel
theorem kc_185_30 : xe_code 185 30 = some (.iload 5, []) := by decide +kernel
theorem kc_185_32 : xe_code 185 32 = some (.iaload, []) := by decide +kernel
theorem kc_185_33 : xe_code 185 33 = some (.iload_n 1, []) := by decide +kernel
theorem kc_185_34 : xe_code 185 34 = some (.if_icmp .ne 38, [72]) := by decide +kernel
theorem kc_185_37 : xe_code 185 37 = some (.aload_n 0, []) := by decide +kernel
theorem kc_185_38 : xe_code 185 38 = some (.getfield 9, [5, 0, 313]) := by decide +kernel
theorem kc_185_41 : xe_code 185 41 = some (.iload 5, []) := by decide +kernel
theorem kc_185_43 : xe_code 185 43 = some (.iaload, []) := by decide +kernel
theorem kc_185_44 : xe_code 185 44 = some (.iload_n 2, []) := by decide +kernel
theorem kc_185_45 : xe_code 185 45 = some (.if_icmp .gt 27, [72]) := by decide +kernel
theorem kc_185_48 : xe_code 185 48 = some (.aload_n 0, []) := by decide +kernel
theorem kc_185_49 : xe_code 185 49 = some (.getfield 9, [5, 0, 313]) := by decide +kernel
theorem kc_185_52 : xe_code 185 52 = some (.iload 5, []) := by decide +kernel
theorem kc_185_54 : xe_code 185 54 = some (.iaload, []) := by decide +kernel
theorem kc_185_55 : xe_code 185 55 = some (.iload 4, []) := by decide +kernel
theorem kc_185_57 : xe_code 185 57 = some (.if_icmp .lt 15, [72]) := by decide +kernel
theorem kc_185_60 : xe_code 185 60 = some (.iload 5, []) := by decide +kernel
theorem kc_185_62 : xe_code 185 62 = some (.istore_n 3, []) := by decide +kernel
theorem kc_185_63 : xe_code 185 63 = some (.aload_n 0, []) := by decide +kernel
theorem kc_185_64 : xe_code 185 64 = some (.getfield 9, [5, 0, 313]) := by decide +kernel
theorem kc_185_67 : xe_code 185 67 = some (.iload 5, []) := by decide +kernel
theorem kc_185_69 : xe_code 185 69 = some (.iaload, []) := by decide +kernel
theorem kc_185_70 : xe_code 185 70 = some (.istore 4, []) := by decide +kernel
theorem kc_185_72 : xe_code 185 72 = some (.iinc 5 1, []) := by decide +kernel
theorem kc_185_75 : xe_code 185 75 = some (.goto (-65), [10]) := by decide +kernel
theorem kc_185_78 : xe_code 185 78 = some (.iload_n 3, []) := by decide +kernel
theorem kc_185_79 : xe_code 185 79 = some (.ireturn, []) := by decide +kernel
theorem kc_186_0 : xe_code 186 0 = some (.iload_n 1, []) := by decide +kernel
theorem kc_186_1 : xe_code 186 1 = some (.ifCond .lt 9, [10]) := by decide +kernel
theorem kc_186_4 : xe_code 186 4 = some (.iload_n 1, []) := by decide +kernel
theorem kc_186_5 : xe_code 186 5 = some (.bipush 12, []) := by decide +kernel
theorem kc_186_7 : xe_code 186 7 = some (.if_icmp .lt 5, [12]) := by decide +kernel
theorem kc_186_10 : xe_code 186 10 = some (.iconst 0, []) := by decide +kernel
theorem kc_186_11 : xe_code 186 11 = some (.ireturn, []) := by decide +kernel
theorem kc_186_12 : xe_code 186 12 = some (.aload_n 0, []) := by decide +kernel
theorem kc_186_13 : xe_code 186 13 = some (.getfield 47, [5, 7, 320]) := by decide +kernel
theorem kc_186_16 : xe_code 186 16 = some (.ifCond .eq 16, [32]) := by decide +kernel
theorem kc_186_19 : xe_code 186 19 = some (.aload_n 0, []) := by decide +kernel
theorem kc_186_20 : xe_code 186 20 = some (.getfield 21, [5, 3, 316]) := by decide +kernel
theorem kc_186_23 : xe_code 186 23 = some (.iload_n 1, []) := by decide +kernel
theorem kc_186_24 : xe_code 186 24 = some (.iaload, []) := by decide +kernel
theorem kc_186_25 : xe_code 186 25 = some (.iconst 1, []) := by decide +kernel
theorem kc_186_26 : xe_code 186 26 = some (.iadd, []) := by decide +kernel
theorem kc_186_27 : xe_code 186 27 = some (.iconst 2, []) := by decide +kernel
theorem kc_186_28 : xe_code 186 28 = some (.idiv, []) := by decide +kernel
theorem kc_186_29 : xe_code 186 29 = some (.goto 9, [38]) := by decide +kernel
theorem kc_186_32 : xe_code 186 32 = some (.aload_n 0, []) := by decide +kernel
theorem kc_186_33 : xe_code 186 33 = some (.getfield 21, [5, 3, 316]) := by decide +kernel
theorem kc_186_36 : xe_code 186 36 = some (.iload_n 1, []) := by decide +kernel
theorem kc_186_37 : xe_code 186 37 = some (.iaload, []) := by decide +kernel
theorem kc_186_38 : xe_code 186 38 = some (.ireturn, []) := by decide +kernel
theorem kc_187_0 : xe_code 187 0 = some (.iload_n 1, []) := by decide +kernel
theorem kc_187_1 : xe_code 187 1 = some (.ifCond .lt 9, [10]) := by decide +kernel
theorem kc_187_4 : xe_code 187 4 = some (.iload_n 1, []) := by decide +kernel
theorem kc_187_5 : xe_code 187 5 = some (.bipush 12, []) := by decide +kernel
theorem kc_187_7 : xe_code 187 7 = some (.if_icmp .lt 8, [15]) := by decide +kernel
theorem kc_187_10 : xe_code 187 10 = some (.bipush (-9), []) := by decide +kernel
theorem kc_187_12 : xe_code 187 12 = some (.goto 9, [21]) := by decide +kernel
theorem kc_187_15 : xe_code 187 15 = some (.aload_n 0, []) := by decide +kernel
theorem kc_187_16 : xe_code 187 16 = some (.getfield 18, [5, 2, 315]) := by decide +kernel
theorem kc_187_19 : xe_code 187 19 = some (.iload_n 1, []) := by decide +kernel
theorem kc_187_20 : xe_code 187 20 = some (.iaload, []) := by decide +kernel
theorem kc_187_21 : xe_code 187 21 = some (.ireturn, []) := by decide +kernel
theorem kc_188_0 : xe_code 188 0 = some (.iload_n 1, []) := by decide +kernel
theorem kc_188_1 : xe_code 188 1 = some (.invokestatic 171, [117, 1, 529, 0]) := by decide +kernel
theorem kc_188_4 : xe_code 188 4 = some (.ifCond .ne 10, [14]) := by decide +kernel
theorem kc_188_7 : xe_code 188 7 = some (.aload_n 0, []) := by decide +kernel
theorem kc_188_8 : xe_code 188 8 = some (.bipush (-2), []) := by decide +kernel
theorem kc_188_10 : xe_code 188 10 = some (.invokevirtual 72, [90, 1, 407, 0]) := by decide +kernel
theorem kc_188_13 : xe_code 188 13 = some (.ireturn, []) := by decide +kernel
theorem kc_188_14 : xe_code 188 14 = some (.aload_n 0, []) := by decide +kernel
theorem kc_188_15 : xe_code 188 15 = some (.getfield 49, [0, 5, 374]) := by decide +kernel
theorem kc_188_18 : xe_code 188 18 = some (.iload_n 1, []) := by decide +kernel
theorem kc_188_19 : xe_code 188 19 = some (.invokevirtual 297, [189, 1, 849, 5]) := by decide +kernel
theorem kc_188_22 : xe_code 188 22 = some (.ifCond .eq 7, [29]) := by decide +kernel
theorem kc_188_25 : xe_code 188 25 = some (.iconst 1, []) := by decide +kernel
theorem kc_188_26 : xe_code 188 26 = some (.goto 4, [30]) := by decide +kernel
theorem kc_188_29 : xe_code 188 29 = some (.iconst 0, []) := by decide +kernel
theorem kc_188_30 : xe_code 188 30 = some (.ireturn, []) := by decide +kernel
theorem kc_189_0 : xe_code 189 0 = some (.iload_n 1, []) := by decide +kernel
theorem kc_189_1 : xe_code 189 1 = some (.invokestatic 43, [117, 1, 820, 0]) := by decide +kernel
theorem kc_189_4 : xe_code 189 4 = some (.ifCond .eq 40, [44]) := by decide +kernel
theorem kc_189_7 : xe_code 189 7 = some (.aload_n 0, []) := by decide +kernel
theorem kc_189_8 : xe_code 189 8 = some (.getfield 24, [5, 4, 317]) := by decide +kernel
theorem kc_189_11 : xe_code 189 11 = some (.iload_n 1, []) := by decide +kernel
theorem kc_189_12 : xe_code 189 12 = some (.iaload, []) := by decide +kernel
theorem kc_189_13 : xe_code 189 13 = some (.ifCond .eq 31, [44]) := by decide +kernel
theorem kc_189_16 : xe_code 189 16 = some (.aload_n 0, []) := by decide +kernel
theorem kc_189_17 : xe_code 189 17 = some (.getfield 27, [5, 5, 318]) := by decide +kernel
theorem kc_189_20 : xe_code 189 20 = some (.iload_n 1, []) := by decide +kernel
theorem kc_189_21 : xe_code 189 21 = some (.iaload, []) := by decide +kernel
theorem kc_189_22 : xe_code 189 22 = some (.ifCond .eq 22, [44]) := by decide +kernel
theorem kc_189_25 : xe_code 189 25 = some (.aload_n 0, []) := by decide +kernel
theorem kc_189_26 : xe_code 189 26 = some (.getfield 24, [5, 4, 317]) := by decide +kernel
theorem kc_189_29 : xe_code 189 29 = some (.iload_n 1, []) := by decide +kernel
theorem kc_189_30 : xe_code 189 30 = some (.iaload, []) := by decide +kernel
theorem kc_189_31 : xe_code 189 31 = some (.aload_n 0, []) := by decide +kernel
theorem kc_189_32 : xe_code 189 32 = some (.getfield 27, [5, 5, 318]) := by decide +kernel
theorem kc_189_35 : xe_code 189 35 = some (.iload_n 1, []) := by decide +kernel
theorem kc_189_36 : xe_code 189 36 = some (.iaload, []) := by decide +kernel
theorem kc_189_37 : xe_code 189 37 = some (.if_icmp .eq 7, [44]) := by decide +kernel
theorem kc_189_40 : xe_code 189 40 = some (.iconst 1, []) := by decide +kernel
theorem kc_189_41 : xe_code 189 41 = some (.goto 4, [45]) := by decide +kernel
theorem kc_189_44 : xe_code 189 44 = some (.iconst 0, []) := by decide +kernel
theorem kc_189_45 : xe_code 189 45 = some (.ireturn, []) := by decide +kernel
theorem kc_190_0 : xe_code 190 0 = some (.iload_n 1, []) := by decide +kernel
theorem kc_190_1 : xe_code 190 1 = some (.tableswitch 132 0 9 #[55, 60, 68, 76, 84, 95, 103, 111, 116, 124], [133, 56, 61, 69, 77, 85, 96, 104, 112, 117, 125]) := by decide +kernel
theorem kc_190_56 : xe_code 190 56 = some (.aload_n 0, []) := by decide +kernel
theorem kc_190_57 : xe_code 190 57 = some (.getfield 148, [0, 9, 378]) := by decide +kernel
theorem kc_190_60 : xe_code 190 60 = some (.ireturn, []) := by decide +kernel
theorem kc_190_61 : xe_code 190 61 = some (.aload_n 0, []) := by decide +kernel
theorem kc_190_62 : xe_code 190 62 = some (.getfield 10, [0, 0, 369]) := by decide +kernel
theorem kc_190_65 : xe_code 190 65 = some (.invokevirtual 300, [191, 0, 857, 4]) := by decide +kernel
theorem kc_190_68 : xe_code 190 68 = some (.ireturn, []) := by decide +kernel
theorem kc_190_69 : xe_code 190 69 = some (.aload_n 0, []) := by decide +kernel
theorem kc_190_70 : xe_code 190 70 = some (.getfield 28, [0, 2, 371]) := by decide +kernel
theorem kc_190_73 : xe_code 190 73 = some (.getfield 164, [3, 8, 241]) := by decide +kernel
theorem kc_190_76 : xe_code 190 76 = some (.ireturn, []) := by decide +kernel
theorem kc_190_77 : xe_code 190 77 = some (.aload_n 0, []) := by decide +kernel
theorem kc_190_78 : xe_code 190 78 = some (.getfield 10, [0, 0, 369]) := by decide +kernel
theorem kc_190_81 : xe_code 190 81 = some (.getfield 178, [4, 5, 178]) := by decide +kernel
theorem kc_190_84 : xe_code 190 84 = some (.ireturn, []) := by decide +kernel
theorem kc_190_85 : xe_code 190 85 = some (.aload_n 0, []) := by decide +kernel
theorem kc_190_86 : xe_code 190 86 = some (.getfield 19, [0, 1, 370]) := by decide +kernel
theorem kc_190_89 : xe_code 190 89 = some (.getfield 184, [9, 2, 210]) := by decide +kernel
theorem kc_190_92 : xe_code 190 92 = some (.invokestatic 303, [4, 1, 861, 0]) := by decide +kernel
theorem kc_190_95 : xe_code 190 95 = some (.ireturn, []) := by decide +kernel
theorem kc_190_96 : xe_code 190 96 = some (.aload_n 0, []) := by decide +kernel
theorem kc_190_97 : xe_code 190 97 = some (.getfield 35, [0, 3, 372]) := by decide +kernel
theorem kc_190_100 : xe_code 190 100 = some (.getfield 227, [6, 4, 274]) := by decide +kernel
theorem kc_190_103 : xe_code 190 103 = some (.ireturn, []) := by decide +kernel
theorem kc_190_104 : xe_code 190 104 = some (.aload_n 0, []) := by decide +kernel
theorem kc_190_105 : xe_code 190 105 = some (.getfield 35, [0, 3, 372]) := by decide +kernel
theorem kc_190_108 : xe_code 190 108 = some (.invokevirtual 307, [192, 0, 862, 6]) := by decide +kernel
theorem kc_190_111 : xe_code 190 111 = some (.ireturn, []) := by decide +kernel
theorem kc_190_112 : xe_code 190 112 = some (.aload_n 0, []) := by decide +kernel
theorem kc_190_113 : xe_code 190 113 = some (.getfield 243, [0, 8, 377]) := by decide +kernel
theorem kc_190_116 : xe_code 190 116 = some (.ireturn, []) := by decide +kernel
theorem kc_190_117 : xe_code 190 117 = some (.aload_n 0, []) := by decide +kernel
theorem kc_190_118 : xe_code 190 118 = some (.getfield 49, [0, 5, 374]) := by decide +kernel
theorem kc_190_121 : xe_code 190 121 = some (.getfield 273, [5, 8, 323]) := by decide +kernel
theorem kc_190_124 : xe_code 190 124 = some (.ireturn, []) := by decide +kernel
theorem kc_190_125 : xe_code 190 125 = some (.aload_n 0, []) := by decide +kernel
theorem kc_190_126 : xe_code 190 126 = some (.getfield 42, [0, 4, 373]) := by decide +kernel
theorem kc_190_129 : xe_code 190 129 = some (.invokevirtual 267, [173, 0, 783, 2]) := by decide +kernel
theorem kc_190_132 : xe_code 190 132 = some (.ireturn, []) := by decide +kernel
theorem kc_190_133 : xe_code 190 133 = some (.iload_n 1, []) := by decide +kernel
theorem kc_190_134 : xe_code 190 134 = some (.bipush 11, []) := by decide +kernel
theorem kc_190_136 : xe_code 190 136 = some (.if_icmp .lt 21, [157]) := by decide +kernel
theorem kc_190_139 : xe_code 190 139 = some (.iload_n 1, []) := by decide +kernel
theorem kc_190_140 : xe_code 190 140 = some (.bipush 16, []) := by decide +kernel
theorem kc_190_142 : xe_code 190 142 = some (.if_icmp .gt 15, [157]) := by decide +kernel
theorem kc_190_145 : xe_code 190 145 = some (.aload_n 0, []) := by decide +kernel
theorem kc_190_146 : xe_code 190 146 = some (.getfield 59, [0, 7, 376]) := by decide +kernel
theorem kc_190_149 : xe_code 190 149 = some (.iload_n 1, []) := by decide +kernel
theorem kc_190_150 : xe_code 190 150 = some (.bipush 10, []) := by decide +kernel
theorem kc_190_152 : xe_code 190 152 = some (.isub, []) := by decide +kernel
theorem kc_190_153 : xe_code 190 153 = some (.iaload, []) := by decide +kernel
theorem kc_190_154 : xe_code 190 154 = some (.goto 5, [159]) := by decide +kernel
theorem kc_190_157 : xe_code 190 157 = some (.bipush (-9), []) := by decide +kernel
theorem kc_190_159 : xe_code 190 159 = some (.ireturn, []) := by decide +kernel
theorem kc_191_0 : xe_code 191 0 = some (.iconst 0, []) := by decide +kernel
theorem kc_191_1 : xe_code 191 1 = some (.istore_n 1, []) := by decide +kernel
theorem kc_191_2 : xe_code 191 2 = some (.iconst 0, []) := by decide +kernel
theorem kc_191_3 : xe_code 191 3 = some (.istore_n 2, []) := by decide +kernel
theorem kc_191_4 : xe_code 191 4 = some (.iload_n 2, []) := by decide +kernel
theorem kc_191_5 : xe_code 191 5 = some (.bipush 12, []) := by decide +kernel
theorem kc_191_7 : xe_code 191 7 = some (.if_icmp .ge 29, [36]) := by decide +kernel
theorem kc_191_10 : xe_code 191 10 = some (.iload_n 1, []) := by decide +kernel
theorem kc_191_11 : xe_code 191 11 = some (.aload_n 0, []) := by decide +kernel
theorem kc_191_12 : xe_code 191 12 = some (.getfield 19, [4, 1, 172]) := by decide +kernel
theorem kc_191_15 : xe_code 191 15 = some (.iload_n 2, []) := by decide +kernel
theorem kc_191_16 : xe_code 191 16 = some (.aaload, []) := by decide +kernel
theorem kc_191_17 : xe_code 191 17 = some (.invokevirtual 65, [105, 0, 493, 11]) := by decide +kernel
theorem kc_191_20 : xe_code 191 20 = some (.ifCond .eq 7, [27]) := by decide +kernel
theorem kc_191_23 : xe_code 191 23 = some (.iconst 1, []) := by decide +kernel
theorem kc_191_24 : xe_code 191 24 = some (.goto 4, [28]) := by decide +kernel
theorem kc_191_27 : xe_code 191 27 = some (.iconst 0, []) := by decide +kernel
theorem kc_191_28 : xe_code 191 28 = some (.iadd, []) := by decide +kernel
theorem kc_191_29 : xe_code 191 29 = some (.istore_n 1, []) := by decide +kernel
theorem kc_191_30 : xe_code 191 30 = some (.iinc 2 1, []) := by decide +kernel
theorem kc_191_33 : xe_code 191 33 = some (.goto (-29), [4]) := by decide +kernel
theorem kc_191_36 : xe_code 191 36 = some (.iload_n 1, []) := by decide +kernel
theorem kc_191_37 : xe_code 191 37 = some (.ireturn, []) := by decide +kernel
theorem kc_192_0 : xe_code 192 0 = some (.iconst 0, []) := by decide +kernel
theorem kc_192_1 : xe_code 192 1 = some (.istore_n 1, []) := by decide +kernel
theorem kc_192_2 : xe_code 192 2 = some (.iconst 0, []) := by decide +kernel
theorem kc_192_3 : xe_code 192 3 = some (.istore_n 2, []) := by decide +kernel
theorem kc_192_4 : xe_code 192 4 = some (.iload_n 2, []) := by decide +kernel
theorem kc_192_5 : xe_code 192 5 = some (.aload_n 0, []) := by decide +kernel
theorem kc_192_6 : xe_code 192 6 = some (.getfield 25, [6, 4, 273]) := by decide +kernel
theorem kc_192_9 : xe_code 192 9 = some (.if_icmp .ge 32, [41]) := by decide +kernel
theorem kc_192_12 : xe_code 192 12 = some (.iload_n 2, []) := by decide +kernel
theorem kc_192_13 : xe_code 192 13 = some (.bipush 8, []) := by decide +kernel
theorem kc_192_15 : xe_code 192 15 = some (.if_icmp .ge 26, [41]) := by decide +kernel
theorem kc_192_18 : xe_code 192 18 = some (.iload_n 1, []) := by decide +kernel
theorem kc_192_19 : xe_code 192 19 = some (.aload_n 0, []) := by decide +kernel
theorem kc_192_20 : xe_code 192 20 = some (.getfield 22, [6, 3, 271]) := by decide +kernel
theorem kc_192_23 : xe_code 192 23 = some (.iload_n 2, []) := by decide +kernel
theorem kc_192_24 : xe_code 192 24 = some (.iaload, []) := by decide +kernel
theorem kc_192_25 : xe_code 192 25 = some (.ifCond .ne 7, [32]) := by decide +kernel
theorem kc_192_28 : xe_code 192 28 = some (.iconst 0, []) := by decide +kernel
theorem kc_192_29 : xe_code 192 29 = some (.goto 4, [33]) := by decide +kernel
theorem kc_192_32 : xe_code 192 32 = some (.iconst 1, []) := by decide +kernel
theorem kc_192_33 : xe_code 192 33 = some (.iadd, []) := by decide +kernel
theorem kc_192_34 : xe_code 192 34 = some (.istore_n 1, []) := by decide +kernel
theorem kc_192_35 : xe_code 192 35 = some (.iinc 2 1, []) := by decide +kernel
theorem kc_192_38 : xe_code 192 38 = some (.goto (-34), [4]) := by decide +kernel
theorem kc_192_41 : xe_code 192 41 = some (.iload_n 1, []) := by decide +kernel
theorem kc_192_42 : xe_code 192 42 = some (.ireturn, []) := by decide +kernel
theorem kc_193_0 : xe_code 193 0 = some (.aload_n 0, []) := by decide +kernel
theorem kc_193_1 : xe_code 193 1 = some (.getfield 28, [0, 2, 371]) := by decide +kernel
theorem kc_193_4 : xe_code 193 4 = some (.iload_n 1, []) := by decide +kernel
theorem kc_193_5 : xe_code 193 5 = some (.invokevirtual 190, [138, 1, 617, 3]) := by decide +kernel
theorem kc_193_8 : xe_code 193 8 = some (.ifCond .ne 13, [21]) := by decide +kernel
theorem kc_193_14 : xe_code 193 14 = some (.dup, []) := by decide +kernel
theorem kc_193_21 : xe_code 193 21 = some (.aload_n 0, []) := by decide +kernel
theorem kc_193_22 : xe_code 193 22 = some (.getfield 28, [0, 2, 371]) := by decide +kernel
theorem kc_193_25 : xe_code 193 25 = some (.iload_n 1, []) := by decide +kernel
theorem kc_193_26 : xe_code 193 26 = some (.invokevirtual 200, [146, 1, 940, 3]) := by decide +kernel
theorem kc_193_29 : xe_code 193 29 = some (.lreturn, []) := by decide +kernel
theorem kc_195_0 : xe_code 195 0 = some (.new 8, [0, 70]) := by decide +kernel
theorem kc_195_3 : xe_code 195 3 = some (.dup, []) := by decide +kernel
theorem kc_195_4 : xe_code 195 4 = some (.invokespecial 15, [76, 0, 72, 0]) := by decide +kernel
theorem kc_195_7 : xe_code 195 7 = some (.astore_n 1, []) := by decide +kernel
theorem kc_195_8 : xe_code 195 8 = some (.new 16, [12, 941]) := by decide +kernel
theorem kc_195_11 : xe_code 195 11 = some (.dup, []) := by decide +kernel
theorem kc_195_12 : xe_code 195 12 = some (.invokespecial 18, [8, 0, 943, 12]) := by decide +kernel
theorem kc_195_15 : xe_code 195 15 = some (.astore_n 2, []) := by decide +kernel
theorem kc_195_16 : xe_code 195 16 = some (.iconst 1, []) := by decide +kernel
theorem kc_195_17 : xe_code 195 17 = some (.newarray .long, [1, 261]) := by decide +kernel
theorem kc_195_19 : xe_code 195 19 = some (.astore_n 3, []) := by decide +kernel
theorem kc_195_20 : xe_code 195 20 = some (.iconst 0, []) := by decide +kernel
theorem kc_195_21 : xe_code 195 21 = some (.istore 4, []) := by decide +kernel
theorem kc_195_23 : xe_code 195 23 = some (.iload 4, []) := by decide +kernel
theorem kc_195_25 : xe_code 195 25 = some (.aload_n 0, []) := by decide +kernel
theorem kc_195_26 : xe_code 195 26 = some (.arraylength, []) := by decide +kernel
theorem kc_195_27 : xe_code 195 27 = some (.bipush 6, []) := by decide +kernel
theorem kc_195_29 : xe_code 195 29 = some (.isub, []) := by decide +kernel
theorem kc_195_30 : xe_code 195 30 = some (.if_icmp .gt 1477, [1507]) := by decide +kernel
theorem kc_195_33 : xe_code 195 33 = some (.aload_n 0, []) := by decide +kernel
theorem kc_195_34 : xe_code 195 34 = some (.iload 4, []) := by decide +kernel
theorem kc_195_36 : xe_code 195 36 = some (.iaload, []) := by decide +kernel
theorem kc_195_37 : xe_code 195 37 = some (.bipush 63, []) := by decide +kernel
theorem kc_195_39 : xe_code 195 39 = some (.iand, []) := by decide +kernel
theorem kc_195_40 : xe_code 195 40 = some (.tableswitch 1461 0 33 #[152, 201, 250, 299, 336, 361, 438, 475, 500, 525, 550, 611, 672, 725, 750, 778, 815, 828, 853, 866, 903, 956, 969, 982, 1055, 1092, 1153, 1166, 1191, 1252, 1293, 1374, 1411, 1436], [1501, 192, 241, 290, 339, 376, 401, 478, 515, 540, 565, 590, 651, 712, 765, 790, 818, 855, 868, 893, 906, 943, 996, 1009, 1022, 1095, 1132, 1193, 1206, 1231, 1292, 1333, 1414, 1451, 1476]) := by decide +kernel
theorem kc_195_192 : xe_code 195 192 = some (.aload_n 1, []) := by decide +kernel
theorem kc_195_193 : xe_code 195 193 = some (.aload_n 0, []) := by decide +kernel
theorem kc_195_194 : xe_code 195 194 = some (.iload 4, []) := by decide +kernel
theorem kc_195_196 : xe_code 195 196 = some (.iconst 1, []) := by decide +kernel
theorem kc_195_197 : xe_code 195 197 = some (.iadd, []) := by decide +kernel
theorem kc_195_198 : xe_code 195 198 = some (.iaload, []) := by decide +kernel
theorem kc_195_199 : xe_code 195 199 = some (.aload_n 0, []) := by decide +kernel
theorem kc_195_200 : xe_code 195 200 = some (.iload 4, []) := by decide +kernel
theorem kc_195_202 : xe_code 195 202 = some (.iconst 2, []) := by decide +kernel
theorem kc_195_203 : xe_code 195 203 = some (.iadd, []) := by decide +kernel
theorem kc_195_204 : xe_code 195 204 = some (.iaload, []) := by decide +kernel
theorem kc_195_205 : xe_code 195 205 = some (.aload_n 0, []) := by decide +kernel
theorem kc_195_206 : xe_code 195 206 = some (.iload 4, []) := by decide +kernel
theorem kc_195_208 : xe_code 195 208 = some (.iconst 3, []) := by decide +kernel
theorem kc_195_209 : xe_code 195 209 = some (.iadd, []) := by decide +kernel
theorem kc_195_210 : xe_code 195 210 = some (.iaload, []) := by decide +kernel
theorem kc_195_211 : xe_code 195 211 = some (.invokevirtual 19, [88, 3, 400, 0]) := by decide +kernel
theorem kc_195_214 : xe_code 195 214 = some (.aload_n 2, []) := by decide +kernel
theorem kc_195_215 : xe_code 195 215 = some (.aload_n 0, []) := by decide +kernel
theorem kc_195_216 : xe_code 195 216 = some (.iload 4, []) := by decide +kernel
theorem kc_195_218 : xe_code 195 218 = some (.iconst 1, []) := by decide +kernel
theorem kc_195_219 : xe_code 195 219 = some (.iadd, []) := by decide +kernel
theorem kc_195_220 : xe_code 195 220 = some (.iaload, []) := by decide +kernel
theorem kc_195_221 : xe_code 195 221 = some (.aload_n 0, []) := by decide +kernel
theorem kc_195_222 : xe_code 195 222 = some (.iload 4, []) := by decide +kernel
theorem kc_195_224 : xe_code 195 224 = some (.iconst 2, []) := by decide +kernel
theorem kc_195_225 : xe_code 195 225 = some (.iadd, []) := by decide +kernel
theorem kc_195_226 : xe_code 195 226 = some (.iaload, []) := by decide +kernel
theorem kc_195_227 : xe_code 195 227 = some (.aload_n 0, []) := by decide +kernel
theorem kc_195_228 : xe_code 195 228 = some (.iload 4, []) := by decide +kernel
theorem kc_195_230 : xe_code 195 230 = some (.iconst 3, []) := by decide +kernel
theorem kc_195_231 : xe_code 195 231 = some (.iadd, []) := by decide +kernel
theorem kc_195_232 : xe_code 195 232 = some (.iaload, []) := by decide +kernel
theorem kc_195_233 : xe_code 195 233 = some (.invokevirtual 23, [9, 3, 1141, 12]) := by decide +kernel
theorem kc_195_236 : xe_code 195 236 = some (.if_icmp .eq 1265, [1501]) := by decide +kernel
theorem kc_195_239 : xe_code 195 239 = some (.iconst 0, []) := by decide +kernel
theorem kc_195_240 : xe_code 195 240 = some (.ireturn, []) := by decide +kernel
theorem kc_195_241 : xe_code 195 241 = some (.aload_n 1, []) := by decide +kernel
theorem kc_195_242 : xe_code 195 242 = some (.aload_n 0, []) := by decide +kernel
theorem kc_195_243 : xe_code 195 243 = some (.iload 4, []) := by decide +kernel
theorem kc_195_245 : xe_code 195 245 = some (.iconst 1, []) := by decide +kernel
theorem kc_195_246 : xe_code 195 246 = some (.iadd, []) := by decide +kernel
theorem kc_195_247 : xe_code 195 247 = some (.iaload, []) := by decide +kernel
theorem kc_195_248 : xe_code 195 248 = some (.aload_n 0, []) := by decide +kernel
theorem kc_195_249 : xe_code 195 249 = some (.iload 4, []) := by decide +kernel
theorem kc_195_251 : xe_code 195 251 = some (.iconst 2, []) := by decide +kernel
theorem kc_195_252 : xe_code 195 252 = some (.iadd, []) := by decide +kernel
theorem kc_195_253 : xe_code 195 253 = some (.iaload, []) := by decide +kernel
theorem kc_195_254 : xe_code 195 254 = some (.aload_n 0, []) := by decide +kernel
theorem kc_195_255 : xe_code 195 255 = some (.iload 4, []) := by decide +kernel
theorem kc_195_257 : xe_code 195 257 = some (.iconst 3, []) := by decide +kernel
theorem kc_195_258 : xe_code 195 258 = some (.iadd, []) := by decide +kernel
theorem kc_195_259 : xe_code 195 259 = some (.iaload, []) := by decide +kernel
theorem kc_195_260 : xe_code 195 260 = some (.invokevirtual 24, [94, 3, 428, 0]) := by decide +kernel
theorem kc_195_263 : xe_code 195 263 = some (.pop, []) := by decide +kernel
theorem kc_195_264 : xe_code 195 264 = some (.aload_n 2, []) := by decide +kernel
theorem kc_195_265 : xe_code 195 265 = some (.aload_n 0, []) := by decide +kernel
theorem kc_195_266 : xe_code 195 266 = some (.iload 4, []) := by decide +kernel
theorem kc_195_268 : xe_code 195 268 = some (.iconst 1, []) := by decide +kernel
theorem kc_195_269 : xe_code 195 269 = some (.iadd, []) := by decide +kernel
theorem kc_195_270 : xe_code 195 270 = some (.iaload, []) := by decide +kernel
theorem kc_195_271 : xe_code 195 271 = some (.aload_n 0, []) := by decide +kernel
theorem kc_195_272 : xe_code 195 272 = some (.iload 4, []) := by decide +kernel
theorem kc_195_274 : xe_code 195 274 = some (.iconst 2, []) := by decide +kernel
theorem kc_195_275 : xe_code 195 275 = some (.iadd, []) := by decide +kernel
theorem kc_195_276 : xe_code 195 276 = some (.iaload, []) := by decide +kernel
theorem kc_195_277 : xe_code 195 277 = some (.aload_n 0, []) := by decide +kernel
theorem kc_195_278 : xe_code 195 278 = some (.iload 4, []) := by decide +kernel
theorem kc_195_280 : xe_code 195 280 = some (.iconst 3, []) := by decide +kernel
theorem kc_195_281 : xe_code 195 281 = some (.iadd, []) := by decide +kernel
theorem kc_195_282 : xe_code 195 282 = some (.iaload, []) := by decide +kernel
theorem kc_195_283 : xe_code 195 283 = some (.invokevirtual 27, [15, 3, 1164, 12]) := by decide +kernel
theorem kc_195_286 : xe_code 195 286 = some (.pop, []) := by decide +kernel
theorem kc_195_287 : xe_code 195 287 = some (.goto 1214, [1501]) := by decide +kernel
theorem kc_195_290 : xe_code 195 290 = some (.aload_n 1, []) := by decide +kernel
theorem kc_195_291 : xe_code 195 291 = some (.aload_n 0, []) := by decide +kernel
theorem kc_195_292 : xe_code 195 292 = some (.iload 4, []) := by decide +kernel
theorem kc_195_294 : xe_code 195 294 = some (.iconst 1, []) := by decide +kernel
theorem kc_195_295 : xe_code 195 295 = some (.iadd, []) := by decide +kernel
theorem kc_195_296 : xe_code 195 296 = some (.iaload, []) := by decide +kernel
theorem kc_195_297 : xe_code 195 297 = some (.aload_n 0, []) := by decide +kernel
theorem kc_195_298 : xe_code 195 298 = some (.iload 4, []) := by decide +kernel
theorem kc_195_300 : xe_code 195 300 = some (.iconst 2, []) := by decide +kernel
theorem kc_195_301 : xe_code 195 301 = some (.iadd, []) := by decide +kernel
theorem kc_195_302 : xe_code 195 302 = some (.iaload, []) := by decide +kernel
theorem kc_195_303 : xe_code 195 303 = some (.aload_n 0, []) := by decide +kernel
theorem kc_195_304 : xe_code 195 304 = some (.iload 4, []) := by decide +kernel
theorem kc_195_306 : xe_code 195 306 = some (.iconst 3, []) := by decide +kernel
theorem kc_195_307 : xe_code 195 307 = some (.iadd, []) := by decide +kernel
theorem kc_195_308 : xe_code 195 308 = some (.iaload, []) := by decide +kernel
theorem kc_195_309 : xe_code 195 309 = some (.invokevirtual 28, [95, 3, 432, 0]) := by decide +kernel
theorem kc_195_312 : xe_code 195 312 = some (.pop, []) := by decide +kernel
theorem kc_195_313 : xe_code 195 313 = some (.aload_n 2, []) := by decide +kernel
theorem kc_195_314 : xe_code 195 314 = some (.aload_n 0, []) := by decide +kernel
theorem kc_195_315 : xe_code 195 315 = some (.iload 4, []) := by decide +kernel
theorem kc_195_317 : xe_code 195 317 = some (.iconst 1, []) := by decide +kernel
theorem kc_195_318 : xe_code 195 318 = some (.iadd, []) := by decide +kernel
theorem kc_195_319 : xe_code 195 319 = some (.iaload, []) := by decide +kernel
theorem kc_195_320 : xe_code 195 320 = some (.aload_n 0, []) := by decide +kernel
theorem kc_195_321 : xe_code 195 321 = some (.iload 4, []) := by decide +kernel
theorem kc_195_323 : xe_code 195 323 = some (.iconst 2, []) := by decide +kernel
theorem kc_195_324 : xe_code 195 324 = some (.iadd, []) := by decide +kernel
theorem kc_195_325 : xe_code 195 325 = some (.iaload, []) := by decide +kernel
theorem kc_195_326 : xe_code 195 326 = some (.aload_n 0, []) := by decide +kernel
theorem kc_195_327 : xe_code 195 327 = some (.iload 4, []) := by decide +kernel
theorem kc_195_329 : xe_code 195 329 = some (.iconst 3, []) := by decide +kernel
theorem kc_195_330 : xe_code 195 330 = some (.iadd, []) := by decide +kernel
theorem kc_195_331 : xe_code 195 331 = some (.iaload, []) := by decide +kernel
theorem kc_195_332 : xe_code 195 332 = some (.invokevirtual 31, [16, 3, 1168, 12]) := by decide +kernel
theorem kc_195_335 : xe_code 195 335 = some (.pop, []) := by decide +kernel
theorem kc_195_336 : xe_code 195 336 = some (.goto 1165, [1501]) := by decide +kernel
theorem kc_195_339 : xe_code 195 339 = some (.aload_n 1, []) := by decide +kernel
theorem kc_195_340 : xe_code 195 340 = some (.aload_n 0, []) := by decide +kernel
theorem kc_195_341 : xe_code 195 341 = some (.iload 4, []) := by decide +kernel
theorem kc_195_343 : xe_code 195 343 = some (.iconst 1, []) := by decide +kernel
theorem kc_195_344 : xe_code 195 344 = some (.iadd, []) := by decide +kernel
theorem kc_195_345 : xe_code 195 345 = some (.iaload, []) := by decide +kernel
theorem kc_195_346 : xe_code 195 346 = some (.aload_n 0, []) := by decide +kernel
theorem kc_195_347 : xe_code 195 347 = some (.iload 4, []) := by decide +kernel
theorem kc_195_349 : xe_code 195 349 = some (.iconst 2, []) := by decide +kernel
theorem kc_195_350 : xe_code 195 350 = some (.iadd, []) := by decide +kernel
theorem kc_195_351 : xe_code 195 351 = some (.iaload, []) := by decide +kernel
theorem kc_195_352 : xe_code 195 352 = some (.invokevirtual 32, [100, 2, 453, 0]) := by decide +kernel
theorem kc_195_355 : xe_code 195 355 = some (.pop, []) := by decide +kernel
theorem kc_195_356 : xe_code 195 356 = some (.aload_n 2, []) := by decide +kernel
theorem kc_195_357 : xe_code 195 357 = some (.aload_n 0, []) := by decide +kernel
theorem kc_195_358 : xe_code 195 358 = some (.iload 4, []) := by decide +kernel
theorem kc_195_360 : xe_code 195 360 = some (.iconst 1, []) := by decide +kernel
theorem kc_195_361 : xe_code 195 361 = some (.iadd, []) := by decide +kernel
theorem kc_195_362 : xe_code 195 362 = some (.iaload, []) := by decide +kernel
theorem kc_195_363 : xe_code 195 363 = some (.aload_n 0, []) := by decide +kernel
theorem kc_195_364 : xe_code 195 364 = some (.iload 4, []) := by decide +kernel
theorem kc_195_366 : xe_code 195 366 = some (.iconst 2, []) := by decide +kernel
theorem kc_195_367 : xe_code 195 367 = some (.iadd, []) := by decide +kernel
theorem kc_195_368 : xe_code 195 368 = some (.iaload, []) := by decide +kernel
theorem kc_195_369 : xe_code 195 369 = some (.invokevirtual 36, [18, 2, 1177, 12]) := by decide +kernel
theorem kc_195_372 : xe_code 195 372 = some (.pop, []) := by decide +kernel
theorem kc_195_373 : xe_code 195 373 = some (.goto 1128, [1501]) := by decide +kernel
theorem kc_195_376 : xe_code 195 376 = some (.aload_n 1, []) := by decide +kernel
theorem kc_195_377 : xe_code 195 377 = some (.aload_n 0, []) := by decide +kernel
theorem kc_195_378 : xe_code 195 378 = some (.iload 4, []) := by decide +kernel
theorem kc_195_380 : xe_code 195 380 = some (.iconst 1, []) := by decide +kernel
theorem kc_195_381 : xe_code 195 381 = some (.iadd, []) := by decide +kernel
theorem kc_195_382 : xe_code 195 382 = some (.iaload, []) := by decide +kernel
theorem kc_195_383 : xe_code 195 383 = some (.invokevirtual 37, [101, 1, 458, 0]) := by decide +kernel
theorem kc_195_386 : xe_code 195 386 = some (.pop, []) := by decide +kernel
theorem kc_195_387 : xe_code 195 387 = some (.aload_n 2, []) := by decide +kernel
theorem kc_195_388 : xe_code 195 388 = some (.aload_n 0, []) := by decide +kernel
theorem kc_195_389 : xe_code 195 389 = some (.iload 4, []) := by decide +kernel
theorem kc_195_391 : xe_code 195 391 = some (.iconst 1, []) := by decide +kernel
theorem kc_195_392 : xe_code 195 392 = some (.iadd, []) := by decide +kernel
theorem kc_195_393 : xe_code 195 393 = some (.iaload, []) := by decide +kernel
theorem kc_195_394 : xe_code 195 394 = some (.invokevirtual 41, [21, 1, 1189, 12]) := by decide +kernel
theorem kc_195_397 : xe_code 195 397 = some (.pop, []) := by decide +kernel
theorem kc_195_398 : xe_code 195 398 = some (.goto 1103, [1501]) := by decide +kernel
theorem kc_195_401 : xe_code 195 401 = some (.aload_n 1, []) := by decide +kernel
theorem kc_195_402 : xe_code 195 402 = some (.aload_n 0, []) := by decide +kernel
theorem kc_195_403 : xe_code 195 403 = some (.iload 4, []) := by decide +kernel
theorem kc_195_405 : xe_code 195 405 = some (.iconst 1, []) := by decide +kernel
theorem kc_195_406 : xe_code 195 406 = some (.iadd, []) := by decide +kernel
theorem kc_195_407 : xe_code 195 407 = some (.iaload, []) := by decide +kernel
theorem kc_195_408 : xe_code 195 408 = some (.aload_n 0, []) := by decide +kernel
theorem kc_195_409 : xe_code 195 409 = some (.iload 4, []) := by decide +kernel
theorem kc_195_411 : xe_code 195 411 = some (.iconst 2, []) := by decide +kernel
theorem kc_195_412 : xe_code 195 412 = some (.iadd, []) := by decide +kernel
theorem kc_195_413 : xe_code 195 413 = some (.iaload, []) := by decide +kernel
theorem kc_195_414 : xe_code 195 414 = some (.aload_n 0, []) := by decide +kernel
theorem kc_195_415 : xe_code 195 415 = some (.iload 4, []) := by decide +kernel
theorem kc_195_417 : xe_code 195 417 = some (.iconst 3, []) := by decide +kernel
theorem kc_195_418 : xe_code 195 418 = some (.iadd, []) := by decide +kernel
theorem kc_195_419 : xe_code 195 419 = some (.iaload, []) := by decide +kernel
theorem kc_195_420 : xe_code 195 420 = some (.aload_n 0, []) := by decide +kernel
theorem kc_195_421 : xe_code 195 421 = some (.iload 4, []) := by decide +kernel
theorem kc_195_423 : xe_code 195 423 = some (.iconst 4, []) := by decide +kernel
theorem kc_195_424 : xe_code 195 424 = some (.iadd, []) := by decide +kernel
theorem kc_195_425 : xe_code 195 425 = some (.iaload, []) := by decide +kernel
theorem kc_195_426 : xe_code 195 426 = some (.ifCond .eq 7, [433]) := by decide +kernel
theorem kc_195_429 : xe_code 195 429 = some (.iconst 1, []) := by decide +kernel
theorem kc_195_430 : xe_code 195 430 = some (.goto 4, [434]) := by decide +kernel
theorem kc_195_433 : xe_code 195 433 = some (.iconst 0, []) := by decide +kernel
theorem kc_195_434 : xe_code 195 434 = some (.invokevirtual 42, [103, 4, 468, 0]) := by decide +kernel
theorem kc_195_437 : xe_code 195 437 = some (.pop, []) := by decide +kernel
theorem kc_195_438 : xe_code 195 438 = some (.aload_n 2, []) := by decide +kernel
theorem kc_195_439 : xe_code 195 439 = some (.aload_n 0, []) := by decide +kernel
theorem kc_195_440 : xe_code 195 440 = some (.iload 4, []) := by decide +kernel
theorem kc_195_442 : xe_code 195 442 = some (.iconst 1, []) := by decide +kernel
theorem kc_195_443 : xe_code 195 443 = some (.iadd, []) := by decide +kernel
theorem kc_195_444 : xe_code 195 444 = some (.iaload, []) := by decide +kernel
theorem kc_195_445 : xe_code 195 445 = some (.aload_n 0, []) := by decide +kernel
theorem kc_195_446 : xe_code 195 446 = some (.iload 4, []) := by decide +kernel
theorem kc_195_448 : xe_code 195 448 = some (.iconst 2, []) := by decide +kernel
theorem kc_195_449 : xe_code 195 449 = some (.iadd, []) := by decide +kernel
theorem kc_195_450 : xe_code 195 450 = some (.iaload, []) := by decide +kernel
theorem kc_195_451 : xe_code 195 451 = some (.aload_n 0, []) := by decide +kernel
theorem kc_195_452 : xe_code 195 452 = some (.iload 4, []) := by decide +kernel
theorem kc_195_454 : xe_code 195 454 = some (.iconst 3, []) := by decide +kernel
theorem kc_195_455 : xe_code 195 455 = some (.iadd, []) := by decide +kernel
theorem kc_195_456 : xe_code 195 456 = some (.iaload, []) := by decide +kernel
theorem kc_195_457 : xe_code 195 457 = some (.aload_n 0, []) := by decide +kernel
theorem kc_195_458 : xe_code 195 458 = some (.iload 4, []) := by decide +kernel
theorem kc_195_460 : xe_code 195 460 = some (.iconst 4, []) := by decide +kernel
theorem kc_195_461 : xe_code 195 461 = some (.iadd, []) := by decide +kernel
theorem kc_195_462 : xe_code 195 462 = some (.iaload, []) := by decide +kernel
theorem kc_195_463 : xe_code 195 463 = some (.ifCond .eq 7, [470]) := by decide +kernel
theorem kc_195_466 : xe_code 195 466 = some (.iconst 1, []) := by decide +kernel
theorem kc_195_467 : xe_code 195 467 = some (.goto 4, [471]) := by decide +kernel
theorem kc_195_470 : xe_code 195 470 = some (.iconst 0, []) := by decide +kernel
theorem kc_195_471 : xe_code 195 471 = some (.invokevirtual 46, [23, 4, 1196, 12]) := by decide +kernel
theorem kc_195_474 : xe_code 195 474 = some (.pop, []) := by decide +kernel
theorem kc_195_475 : xe_code 195 475 = some (.goto 1026, [1501]) := by decide +kernel
theorem kc_195_478 : xe_code 195 478 = some (.aload_n 1, []) := by decide +kernel
theorem kc_195_479 : xe_code 195 479 = some (.aload_n 0, []) := by decide +kernel
theorem kc_195_480 : xe_code 195 480 = some (.iload 4, []) := by decide +kernel
theorem kc_195_482 : xe_code 195 482 = some (.iconst 1, []) := by decide +kernel
theorem kc_195_483 : xe_code 195 483 = some (.iadd, []) := by decide +kernel
theorem kc_195_484 : xe_code 195 484 = some (.iaload, []) := by decide +kernel
theorem kc_195_485 : xe_code 195 485 = some (.aload_n 0, []) := by decide +kernel
theorem kc_195_486 : xe_code 195 486 = some (.iload 4, []) := by decide +kernel
theorem kc_195_488 : xe_code 195 488 = some (.iconst 2, []) := by decide +kernel
theorem kc_195_489 : xe_code 195 489 = some (.iadd, []) := by decide +kernel
theorem kc_195_490 : xe_code 195 490 = some (.iaload, []) := by decide +kernel
theorem kc_195_491 : xe_code 195 491 = some (.invokevirtual 47, [106, 2, 480, 0]) := by decide +kernel
theorem kc_195_494 : xe_code 195 494 = some (.pop, []) := by decide +kernel
theorem kc_195_495 : xe_code 195 495 = some (.aload_n 2, []) := by decide +kernel
theorem kc_195_496 : xe_code 195 496 = some (.aload_n 0, []) := by decide +kernel
theorem kc_195_497 : xe_code 195 497 = some (.iload 4, []) := by decide +kernel
theorem kc_195_499 : xe_code 195 499 = some (.iconst 1, []) := by decide +kernel
theorem kc_195_500 : xe_code 195 500 = some (.iadd, []) := by decide +kernel
theorem kc_195_501 : xe_code 195 501 = some (.iaload, []) := by decide +kernel
theorem kc_195_502 : xe_code 195 502 = some (.aload_n 0, []) := by decide +kernel
theorem kc_195_503 : xe_code 195 503 = some (.iload 4, []) := by decide +kernel
theorem kc_195_505 : xe_code 195 505 = some (.iconst 2, []) := by decide +kernel
theorem kc_195_506 : xe_code 195 506 = some (.iadd, []) := by decide +kernel
theorem kc_195_507 : xe_code 195 507 = some (.iaload, []) := by decide +kernel
theorem kc_195_508 : xe_code 195 508 = some (.invokevirtual 50, [25, 2, 1203, 12]) := by decide +kernel
theorem kc_195_511 : xe_code 195 511 = some (.pop, []) := by decide +kernel
theorem kc_195_512 : xe_code 195 512 = some (.goto 989, [1501]) := by decide +kernel
theorem kc_195_515 : xe_code 195 515 = some (.aload_n 1, []) := by decide +kernel
theorem kc_195_516 : xe_code 195 516 = some (.aload_n 0, []) := by decide +kernel
theorem kc_195_517 : xe_code 195 517 = some (.iload 4, []) := by decide +kernel
theorem kc_195_519 : xe_code 195 519 = some (.iconst 1, []) := by decide +kernel
theorem kc_195_520 : xe_code 195 520 = some (.iadd, []) := by decide +kernel
theorem kc_195_521 : xe_code 195 521 = some (.iaload, []) := by decide +kernel
theorem kc_195_522 : xe_code 195 522 = some (.invokevirtual 51, [110, 1, 499, 0]) := by decide +kernel
theorem kc_195_525 : xe_code 195 525 = some (.pop, []) := by decide +kernel
theorem kc_195_526 : xe_code 195 526 = some (.aload_n 2, []) := by decide +kernel
theorem kc_195_527 : xe_code 195 527 = some (.aload_n 0, []) := by decide +kernel
theorem kc_195_528 : xe_code 195 528 = some (.iload 4, []) := by decide +kernel
theorem kc_195_530 : xe_code 195 530 = some (.iconst 1, []) := by decide +kernel
theorem kc_195_531 : xe_code 195 531 = some (.iadd, []) := by decide +kernel
theorem kc_195_532 : xe_code 195 532 = some (.iaload, []) := by decide +kernel
theorem kc_195_533 : xe_code 195 533 = some (.invokevirtual 54, [27, 1, 1211, 12]) := by decide +kernel
theorem kc_195_536 : xe_code 195 536 = some (.pop, []) := by decide +kernel
theorem kc_195_537 : xe_code 195 537 = some (.goto 964, [1501]) := by decide +kernel
theorem kc_195_540 : xe_code 195 540 = some (.aload_n 1, []) := by decide +kernel
theorem kc_195_541 : xe_code 195 541 = some (.aload_n 0, []) := by decide +kernel
theorem kc_195_542 : xe_code 195 542 = some (.iload 4, []) := by decide +kernel
theorem kc_195_544 : xe_code 195 544 = some (.iconst 1, []) := by decide +kernel
theorem kc_195_545 : xe_code 195 545 = some (.iadd, []) := by decide +kernel
theorem kc_195_546 : xe_code 195 546 = some (.iaload, []) := by decide +kernel
theorem kc_195_547 : xe_code 195 547 = some (.invokevirtual 55, [111, 1, 503, 0]) := by decide +kernel
theorem kc_195_550 : xe_code 195 550 = some (.pop, []) := by decide +kernel
theorem kc_195_551 : xe_code 195 551 = some (.aload_n 2, []) := by decide +kernel
theorem kc_195_552 : xe_code 195 552 = some (.aload_n 0, []) := by decide +kernel
theorem kc_195_553 : xe_code 195 553 = some (.iload 4, []) := by decide +kernel
theorem kc_195_555 : xe_code 195 555 = some (.iconst 1, []) := by decide +kernel
theorem kc_195_556 : xe_code 195 556 = some (.iadd, []) := by decide +kernel
theorem kc_195_557 : xe_code 195 557 = some (.iaload, []) := by decide +kernel
theorem kc_195_558 : xe_code 195 558 = some (.invokevirtual 58, [28, 1, 1215, 12]) := by decide +kernel
theorem kc_195_561 : xe_code 195 561 = some (.pop, []) := by decide +kernel
theorem kc_195_562 : xe_code 195 562 = some (.goto 939, [1501]) := by decide +kernel
theorem kc_195_565 : xe_code 195 565 = some (.aload_n 1, []) := by decide +kernel
theorem kc_195_566 : xe_code 195 566 = some (.aload_n 0, []) := by decide +kernel
theorem kc_195_567 : xe_code 195 567 = some (.iload 4, []) := by decide +kernel
theorem kc_195_569 : xe_code 195 569 = some (.iconst 1, []) := by decide +kernel
theorem kc_195_570 : xe_code 195 570 = some (.iadd, []) := by decide +kernel
theorem kc_195_571 : xe_code 195 571 = some (.iaload, []) := by decide +kernel
theorem kc_195_572 : xe_code 195 572 = some (.invokevirtual 59, [112, 1, 507, 0]) := by decide +kernel
theorem kc_195_575 : xe_code 195 575 = some (.pop, []) := by decide +kernel
theorem kc_195_576 : xe_code 195 576 = some (.aload_n 2, []) := by decide +kernel
theorem kc_195_577 : xe_code 195 577 = some (.aload_n 0, []) := by decide +kernel
theorem kc_195_578 : xe_code 195 578 = some (.iload 4, []) := by decide +kernel
theorem kc_195_580 : xe_code 195 580 = some (.iconst 1, []) := by decide +kernel
theorem kc_195_581 : xe_code 195 581 = some (.iadd, []) := by decide +kernel
theorem kc_195_582 : xe_code 195 582 = some (.iaload, []) := by decide +kernel
theorem kc_195_583 : xe_code 195 583 = some (.invokevirtual 62, [29, 1, 1219, 12]) := by decide +kernel
theorem kc_195_586 : xe_code 195 586 = some (.pop, []) := by decide +kernel
theorem kc_195_587 : xe_code 195 587 = some (.goto 914, [1501]) := by decide +kernel
theorem kc_195_590 : xe_code 195 590 = some (.aload_n 1, []) := by decide +kernel
theorem kc_195_591 : xe_code 195 591 = some (.aload_n 0, []) := by decide +kernel
theorem kc_195_592 : xe_code 195 592 = some (.iload 4, []) := by decide +kernel
theorem kc_195_594 : xe_code 195 594 = some (.iconst 1, []) := by decide +kernel
theorem kc_195_595 : xe_code 195 595 = some (.iadd, []) := by decide +kernel
theorem kc_195_596 : xe_code 195 596 = some (.iaload, []) := by decide +kernel
theorem kc_195_597 : xe_code 195 597 = some (.aload_n 0, []) := by decide +kernel
theorem kc_195_598 : xe_code 195 598 = some (.iload 4, []) := by decide +kernel
theorem kc_195_600 : xe_code 195 600 = some (.iconst 2, []) := by decide +kernel
theorem kc_195_601 : xe_code 195 601 = some (.iadd, []) := by decide +kernel
theorem kc_195_602 : xe_code 195 602 = some (.iaload, []) := by decide +kernel
theorem kc_195_603 : xe_code 195 603 = some (.aload_n 0, []) := by decide +kernel
theorem kc_195_604 : xe_code 195 604 = some (.iload 4, []) := by decide +kernel
theorem kc_195_606 : xe_code 195 606 = some (.iconst 3, []) := by decide +kernel
theorem kc_195_607 : xe_code 195 607 = some (.iadd, []) := by decide +kernel
theorem kc_195_608 : xe_code 195 608 = some (.iaload, []) := by decide +kernel
theorem kc_195_609 : xe_code 195 609 = some (.aload_n 0, []) := by decide +kernel
theorem kc_195_610 : xe_code 195 610 = some (.iload 4, []) := by decide +kernel
theorem kc_195_612 : xe_code 195 612 = some (.iconst 4, []) := by decide +kernel
theorem kc_195_613 : xe_code 195 613 = some (.iadd, []) := by decide +kernel
theorem kc_195_614 : xe_code 195 614 = some (.iaload, []) := by decide +kernel
theorem kc_195_615 : xe_code 195 615 = some (.invokevirtual 63, [113, 4, 511, 0]) := by decide +kernel
theorem kc_195_618 : xe_code 195 618 = some (.pop, []) := by decide +kernel
theorem kc_195_619 : xe_code 195 619 = some (.aload_n 2, []) := by decide +kernel
theorem kc_195_620 : xe_code 195 620 = some (.aload_n 0, []) := by decide +kernel
theorem kc_195_621 : xe_code 195 621 = some (.iload 4, []) := by decide +kernel
theorem kc_195_623 : xe_code 195 623 = some (.iconst 1, []) := by decide +kernel
theorem kc_195_624 : xe_code 195 624 = some (.iadd, []) := by decide +kernel
theorem kc_195_625 : xe_code 195 625 = some (.iaload, []) := by decide +kernel
theorem kc_195_626 : xe_code 195 626 = some (.aload_n 0, []) := by decide +kernel
theorem kc_195_627 : xe_code 195 627 = some (.iload 4, []) := by decide +kernel
theorem kc_195_629 : xe_code 195 629 = some (.iconst 2, []) := by decide +kernel
theorem kc_195_630 : xe_code 195 630 = some (.iadd, []) := by decide +kernel
theorem kc_195_631 : xe_code 195 631 = some (.iaload, []) := by decide +kernel
theorem kc_195_632 : xe_code 195 632 = some (.aload_n 0, []) := by decide +kernel
theorem kc_195_633 : xe_code 195 633 = some (.iload 4, []) := by decide +kernel
theorem kc_195_635 : xe_code 195 635 = some (.iconst 3, []) := by decide +kernel
theorem kc_195_636 : xe_code 195 636 = some (.iadd, []) := by decide +kernel
theorem kc_195_637 : xe_code 195 637 = some (.iaload, []) := by decide +kernel
theorem kc_195_638 : xe_code 195 638 = some (.aload_n 0, []) := by decide +kernel
theorem kc_195_639 : xe_code 195 639 = some (.iload 4, []) := by decide +kernel
theorem kc_195_641 : xe_code 195 641 = some (.iconst 4, []) := by decide +kernel
theorem kc_195_642 : xe_code 195 642 = some (.iadd, []) := by decide +kernel
theorem kc_195_643 : xe_code 195 643 = some (.iaload, []) := by decide +kernel
theorem kc_195_644 : xe_code 195 644 = some (.invokevirtual 67, [30, 4, 1223, 12]) := by decide +kernel
theorem kc_195_647 : xe_code 195 647 = some (.pop, []) := by decide +kernel
theorem kc_195_648 : xe_code 195 648 = some (.goto 853, [1501]) := by decide +kernel
theorem kc_195_651 : xe_code 195 651 = some (.aload_n 1, []) := by decide +kernel
theorem kc_195_652 : xe_code 195 652 = some (.aload_n 0, []) := by decide +kernel
theorem kc_195_653 : xe_code 195 653 = some (.iload 4, []) := by decide +kernel
theorem kc_195_655 : xe_code 195 655 = some (.iconst 1, []) := by decide +kernel
theorem kc_195_656 : xe_code 195 656 = some (.iadd, []) := by decide +kernel
theorem kc_195_657 : xe_code 195 657 = some (.iaload, []) := by decide +kernel
theorem kc_195_658 : xe_code 195 658 = some (.aload_n 0, []) := by decide +kernel
theorem kc_195_659 : xe_code 195 659 = some (.iload 4, []) := by decide +kernel
theorem kc_195_661 : xe_code 195 661 = some (.iconst 2, []) := by decide +kernel
theorem kc_195_662 : xe_code 195 662 = some (.iadd, []) := by decide +kernel
theorem kc_195_663 : xe_code 195 663 = some (.iaload, []) := by decide +kernel
theorem kc_195_664 : xe_code 195 664 = some (.aload_n 0, []) := by decide +kernel
theorem kc_195_665 : xe_code 195 665 = some (.iload 4, []) := by decide +kernel
theorem kc_195_667 : xe_code 195 667 = some (.iconst 3, []) := by decide +kernel
theorem kc_195_668 : xe_code 195 668 = some (.iadd, []) := by decide +kernel
theorem kc_195_669 : xe_code 195 669 = some (.iaload, []) := by decide +kernel
theorem kc_195_670 : xe_code 195 670 = some (.aload_n 0, []) := by decide +kernel
theorem kc_195_671 : xe_code 195 671 = some (.iload 4, []) := by decide +kernel
theorem kc_195_673 : xe_code 195 673 = some (.iconst 4, []) := by decide +kernel
theorem kc_195_674 : xe_code 195 674 = some (.iadd, []) := by decide +kernel
theorem kc_195_675 : xe_code 195 675 = some (.iaload, []) := by decide +kernel
theorem kc_195_676 : xe_code 195 676 = some (.invokevirtual 68, [116, 4, 525, 0]) := by decide +kernel
theorem kc_195_679 : xe_code 195 679 = some (.pop, []) := by decide +kernel
theorem kc_195_680 : xe_code 195 680 = some (.aload_n 2, []) := by decide +kernel
theorem kc_195_681 : xe_code 195 681 = some (.aload_n 0, []) := by decide +kernel
theorem kc_195_682 : xe_code 195 682 = some (.iload 4, []) := by decide +kernel
theorem kc_195_684 : xe_code 195 684 = some (.iconst 1, []) := by decide +kernel
theorem kc_195_685 : xe_code 195 685 = some (.iadd, []) := by decide +kernel
theorem kc_195_686 : xe_code 195 686 = some (.iaload, []) := by decide +kernel
theorem kc_195_687 : xe_code 195 687 = some (.aload_n 0, []) := by decide +kernel
theorem kc_195_688 : xe_code 195 688 = some (.iload 4, []) := by decide +kernel
theorem kc_195_690 : xe_code 195 690 = some (.iconst 2, []) := by decide +kernel
theorem kc_195_691 : xe_code 195 691 = some (.iadd, []) := by decide +kernel
theorem kc_195_692 : xe_code 195 692 = some (.iaload, []) := by decide +kernel
theorem kc_195_693 : xe_code 195 693 = some (.aload_n 0, []) := by decide +kernel
theorem kc_195_694 : xe_code 195 694 = some (.iload 4, []) := by decide +kernel
theorem kc_195_696 : xe_code 195 696 = some (.iconst 3, []) := by decide +kernel
theorem kc_195_697 : xe_code 195 697 = some (.iadd, []) := by decide +kernel
theorem kc_195_698 : xe_code 195 698 = some (.iaload, []) := by decide +kernel
theorem kc_195_699 : xe_code 195 699 = some (.aload_n 0, []) := by decide +kernel
theorem kc_195_700 : xe_code 195 700 = some (.iload 4, []) := by decide +kernel
theorem kc_195_702 : xe_code 195 702 = some (.iconst 4, []) := by decide +kernel
theorem kc_195_703 : xe_code 195 703 = some (.iadd, []) := by decide +kernel
theorem kc_195_704 : xe_code 195 704 = some (.iaload, []) := by decide +kernel
theorem kc_195_705 : xe_code 195 705 = some (.invokevirtual 71, [32, 4, 1231, 12]) := by decide +kernel
theorem kc_195_708 : xe_code 195 708 = some (.pop, []) := by decide +kernel
theorem kc_195_709 : xe_code 195 709 = some (.goto 792, [1501]) := by decide +kernel
theorem kc_195_712 : xe_code 195 712 = some (.aload_n 1, []) := by decide +kernel
theorem kc_195_713 : xe_code 195 713 = some (.aload_n 0, []) := by decide +kernel
theorem kc_195_714 : xe_code 195 714 = some (.iload 4, []) := by decide +kernel
theorem kc_195_716 : xe_code 195 716 = some (.iconst 1, []) := by decide +kernel
theorem kc_195_717 : xe_code 195 717 = some (.iadd, []) := by decide +kernel
theorem kc_195_718 : xe_code 195 718 = some (.iaload, []) := by decide +kernel
theorem kc_195_719 : xe_code 195 719 = some (.aload_n 0, []) := by decide +kernel
theorem kc_195_720 : xe_code 195 720 = some (.iload 4, []) := by decide +kernel
theorem kc_195_722 : xe_code 195 722 = some (.iconst 2, []) := by decide +kernel
theorem kc_195_723 : xe_code 195 723 = some (.iadd, []) := by decide +kernel
theorem kc_195_724 : xe_code 195 724 = some (.iaload, []) := by decide +kernel
theorem kc_195_725 : xe_code 195 725 = some (.ifCond .eq 7, [732]) := by decide +kernel
theorem kc_195_728 : xe_code 195 728 = some (.iconst 1, []) := by decide +kernel
theorem kc_195_729 : xe_code 195 729 = some (.goto 4, [733]) := by decide +kernel
theorem kc_195_732 : xe_code 195 732 = some (.iconst 0, []) := by decide +kernel
theorem kc_195_733 : xe_code 195 733 = some (.invokevirtual 72, [120, 2, 540, 0]) := by decide +kernel
theorem kc_195_736 : xe_code 195 736 = some (.pop, []) := by decide +kernel
theorem kc_195_737 : xe_code 195 737 = some (.aload_n 2, []) := by decide +kernel
theorem kc_195_738 : xe_code 195 738 = some (.aload_n 0, []) := by decide +kernel
theorem kc_195_739 : xe_code 195 739 = some (.iload 4, []) := by decide +kernel
theorem kc_195_741 : xe_code 195 741 = some (.iconst 1, []) := by decide +kernel
theorem kc_195_742 : xe_code 195 742 = some (.iadd, []) := by decide +kernel
theorem kc_195_743 : xe_code 195 743 = some (.iaload, []) := by decide +kernel
theorem kc_195_744 : xe_code 195 744 = some (.aload_n 0, []) := by decide +kernel
theorem kc_195_745 : xe_code 195 745 = some (.iload 4, []) := by decide +kernel
theorem kc_195_747 : xe_code 195 747 = some (.iconst 2, []) := by decide +kernel
theorem kc_195_748 : xe_code 195 748 = some (.iadd, []) := by decide +kernel
theorem kc_195_749 : xe_code 195 749 = some (.iaload, []) := by decide +kernel
theorem kc_195_750 : xe_code 195 750 = some (.ifCond .eq 7, [757]) := by decide +kernel
theorem kc_195_753 : xe_code 195 753 = some (.iconst 1, []) := by decide +kernel
theorem kc_195_754 : xe_code 195 754 = some (.goto 4, [758]) := by decide +kernel
theorem kc_195_757 : xe_code 195 757 = some (.iconst 0, []) := by decide +kernel
theorem kc_195_758 : xe_code 195 758 = some (.invokevirtual 76, [33, 2, 1235, 12]) := by decide +kernel
theorem kc_195_761 : xe_code 195 761 = some (.pop, []) := by decide +kernel
theorem kc_195_762 : xe_code 195 762 = some (.goto 739, [1501]) := by decide +kernel
theorem kc_195_765 : xe_code 195 765 = some (.aload_n 1, []) := by decide +kernel
theorem kc_195_766 : xe_code 195 766 = some (.aload_n 0, []) := by decide +kernel
theorem kc_195_767 : xe_code 195 767 = some (.iload 4, []) := by decide +kernel
theorem kc_195_769 : xe_code 195 769 = some (.iconst 1, []) := by decide +kernel
theorem kc_195_770 : xe_code 195 770 = some (.iadd, []) := by decide +kernel
theorem kc_195_771 : xe_code 195 771 = some (.iaload, []) := by decide +kernel
theorem kc_195_772 : xe_code 195 772 = some (.invokevirtual 77, [121, 1, 544, 0]) := by decide +kernel
theorem kc_195_775 : xe_code 195 775 = some (.pop, []) := by decide +kernel
theorem kc_195_776 : xe_code 195 776 = some (.aload_n 2, []) := by decide +kernel
theorem kc_195_777 : xe_code 195 777 = some (.aload_n 0, []) := by decide +kernel
theorem kc_195_778 : xe_code 195 778 = some (.iload 4, []) := by decide +kernel
theorem kc_195_780 : xe_code 195 780 = some (.iconst 1, []) := by decide +kernel
theorem kc_195_781 : xe_code 195 781 = some (.iadd, []) := by decide +kernel
theorem kc_195_782 : xe_code 195 782 = some (.iaload, []) := by decide +kernel
theorem kc_195_783 : xe_code 195 783 = some (.invokevirtual 80, [34, 1, 1239, 12]) := by decide +kernel
theorem kc_195_786 : xe_code 195 786 = some (.pop, []) := by decide +kernel
theorem kc_195_787 : xe_code 195 787 = some (.goto 714, [1501]) := by decide +kernel
theorem kc_195_790 : xe_code 195 790 = some (.aload_n 1, []) := by decide +kernel
theorem kc_195_791 : xe_code 195 791 = some (.aload_n 0, []) := by decide +kernel
theorem kc_195_792 : xe_code 195 792 = some (.iload 4, []) := by decide +kernel
theorem kc_195_794 : xe_code 195 794 = some (.iconst 1, []) := by decide +kernel
theorem kc_195_795 : xe_code 195 795 = some (.iadd, []) := by decide +kernel
theorem kc_195_796 : xe_code 195 796 = some (.iaload, []) := by decide +kernel
theorem kc_195_797 : xe_code 195 797 = some (.aload_n 3, []) := by decide +kernel
theorem kc_195_798 : xe_code 195 798 = some (.invokestatic 81, [194, 3, 866, 0]) := by decide +kernel
theorem kc_195_801 : xe_code 195 801 = some (.istore 5, []) := by decide +kernel
theorem kc_195_803 : xe_code 195 803 = some (.aload_n 2, []) := by decide +kernel
theorem kc_195_804 : xe_code 195 804 = some (.aload_n 0, []) := by decide +kernel
theorem kc_195_805 : xe_code 195 805 = some (.iload 4, []) := by decide +kernel
theorem kc_195_807 : xe_code 195 807 = some (.iconst 1, []) := by decide +kernel
theorem kc_195_808 : xe_code 195 808 = some (.iadd, []) := by decide +kernel
theorem kc_195_809 : xe_code 195 809 = some (.iaload, []) := by decide +kernel
theorem kc_195_810 : xe_code 195 810 = some (.invokevirtual 86, [41, 1, 1266, 12]) := by decide +kernel
theorem kc_195_813 : xe_code 195 813 = some (.lstore 6, []) := by decide +kernel
theorem kc_195_815 : xe_code 195 815 = some (.goto 686, [1501]) := by decide +kernel
theorem kc_195_818 : xe_code 195 818 = some (.aload_n 1, []) := by decide +kernel
theorem kc_195_819 : xe_code 195 819 = some (.aload_n 0, []) := by decide +kernel
theorem kc_195_820 : xe_code 195 820 = some (.iload 4, []) := by decide +kernel
theorem kc_195_822 : xe_code 195 822 = some (.iconst 1, []) := by decide +kernel
theorem kc_195_823 : xe_code 195 823 = some (.iadd, []) := by decide +kernel
theorem kc_195_824 : xe_code 195 824 = some (.iaload, []) := by decide +kernel
theorem kc_195_825 : xe_code 195 825 = some (.aload_n 0, []) := by decide +kernel
theorem kc_195_826 : xe_code 195 826 = some (.iload 4, []) := by decide +kernel
theorem kc_195_828 : xe_code 195 828 = some (.iconst 2, []) := by decide +kernel
theorem kc_195_829 : xe_code 195 829 = some (.iadd, []) := by decide +kernel
theorem kc_195_830 : xe_code 195 830 = some (.iaload, []) := by decide +kernel
theorem kc_195_831 : xe_code 195 831 = some (.invokevirtual 87, [137, 2, 613, 0]) := by decide +kernel
theorem kc_195_834 : xe_code 195 834 = some (.pop, []) := by decide +kernel
theorem kc_195_835 : xe_code 195 835 = some (.aload_n 2, []) := by decide +kernel
theorem kc_195_836 : xe_code 195 836 = some (.aload_n 0, []) := by decide +kernel
theorem kc_195_837 : xe_code 195 837 = some (.iload 4, []) := by decide +kernel
theorem kc_195_839 : xe_code 195 839 = some (.iconst 1, []) := by decide +kernel
theorem kc_195_840 : xe_code 195 840 = some (.iadd, []) := by decide +kernel
theorem kc_195_841 : xe_code 195 841 = some (.iaload, []) := by decide +kernel
theorem kc_195_842 : xe_code 195 842 = some (.aload_n 0, []) := by decide +kernel
theorem kc_195_843 : xe_code 195 843 = some (.iload 4, []) := by decide +kernel
theorem kc_195_845 : xe_code 195 845 = some (.iconst 2, []) := by decide +kernel
theorem kc_195_846 : xe_code 195 846 = some (.iadd, []) := by decide +kernel
theorem kc_195_847 : xe_code 195 847 = some (.iaload, []) := by decide +kernel
theorem kc_195_848 : xe_code 195 848 = some (.invokevirtual 90, [46, 2, 1286, 12]) := by decide +kernel
theorem kc_195_851 : xe_code 195 851 = some (.pop, []) := by decide +kernel
theorem kc_195_852 : xe_code 195 852 = some (.goto 649, [1501]) := by decide +kernel
theorem kc_195_855 : xe_code 195 855 = some (.aload_n 1, []) := by decide +kernel
theorem kc_195_856 : xe_code 195 856 = some (.invokevirtual 91, [144, 0, 644, 0]) := by decide +kernel
theorem kc_195_859 : xe_code 195 859 = some (.pop, []) := by decide +kernel
theorem kc_195_860 : xe_code 195 860 = some (.aload_n 2, []) := by decide +kernel
theorem kc_195_861 : xe_code 195 861 = some (.invokevirtual 95, [47, 0, 1290, 12]) := by decide +kernel
theorem kc_195_864 : xe_code 195 864 = some (.pop, []) := by decide +kernel
theorem kc_195_865 : xe_code 195 865 = some (.goto 636, [1501]) := by decide +kernel
theorem kc_195_868 : xe_code 195 868 = some (.aload_n 1, []) := by decide +kernel
theorem kc_195_869 : xe_code 195 869 = some (.aload_n 0, []) := by decide +kernel
theorem kc_195_870 : xe_code 195 870 = some (.iload 4, []) := by decide +kernel
theorem kc_195_872 : xe_code 195 872 = some (.iconst 1, []) := by decide +kernel
theorem kc_195_873 : xe_code 195 873 = some (.iadd, []) := by decide +kernel
theorem kc_195_874 : xe_code 195 874 = some (.iaload, []) := by decide +kernel
theorem kc_195_875 : xe_code 195 875 = some (.invokevirtual 96, [148, 1, 667, 0]) := by decide +kernel
theorem kc_195_878 : xe_code 195 878 = some (.pop, []) := by decide +kernel
theorem kc_195_879 : xe_code 195 879 = some (.aload_n 2, []) := by decide +kernel
theorem kc_195_880 : xe_code 195 880 = some (.aload_n 0, []) := by decide +kernel
theorem kc_195_881 : xe_code 195 881 = some (.iload 4, []) := by decide +kernel
theorem kc_195_883 : xe_code 195 883 = some (.iconst 1, []) := by decide +kernel
theorem kc_195_884 : xe_code 195 884 = some (.iadd, []) := by decide +kernel
theorem kc_195_885 : xe_code 195 885 = some (.iaload, []) := by decide +kernel
theorem kc_195_886 : xe_code 195 886 = some (.invokevirtual 99, [50, 1, 1301, 12]) := by decide +kernel
theorem kc_195_889 : xe_code 195 889 = some (.pop, []) := by decide +kernel
theorem kc_195_890 : xe_code 195 890 = some (.goto 611, [1501]) := by decide +kernel
theorem kc_195_893 : xe_code 195 893 = some (.aload_n 1, []) := by decide +kernel
theorem kc_195_894 : xe_code 195 894 = some (.invokevirtual 100, [151, 0, 679, 0]) := by decide +kernel
theorem kc_195_897 : xe_code 195 897 = some (.pop, []) := by decide +kernel
theorem kc_195_898 : xe_code 195 898 = some (.aload_n 2, []) := by decide +kernel
theorem kc_195_899 : xe_code 195 899 = some (.invokevirtual 103, [51, 0, 1305, 12]) := by decide +kernel
theorem kc_195_902 : xe_code 195 902 = some (.pop, []) := by decide +kernel
theorem kc_195_903 : xe_code 195 903 = some (.goto 598, [1501]) := by decide +kernel
theorem kc_195_906 : xe_code 195 906 = some (.aload_n 1, []) := by decide +kernel
theorem kc_195_907 : xe_code 195 907 = some (.aload_n 0, []) := by decide +kernel
theorem kc_195_908 : xe_code 195 908 = some (.iload 4, []) := by decide +kernel
theorem kc_195_910 : xe_code 195 910 = some (.iconst 1, []) := by decide +kernel
theorem kc_195_911 : xe_code 195 911 = some (.iadd, []) := by decide +kernel
theorem kc_195_912 : xe_code 195 912 = some (.iaload, []) := by decide +kernel
theorem kc_195_913 : xe_code 195 913 = some (.aload_n 0, []) := by decide +kernel
theorem kc_195_914 : xe_code 195 914 = some (.iload 4, []) := by decide +kernel
theorem kc_195_916 : xe_code 195 916 = some (.iconst 2, []) := by decide +kernel
theorem kc_195_917 : xe_code 195 917 = some (.iadd, []) := by decide +kernel
theorem kc_195_918 : xe_code 195 918 = some (.iaload, []) := by decide +kernel
theorem kc_195_919 : xe_code 195 919 = some (.invokevirtual 104, [155, 2, 702, 0]) := by decide +kernel
theorem kc_195_922 : xe_code 195 922 = some (.pop, []) := by decide +kernel
theorem kc_195_923 : xe_code 195 923 = some (.aload_n 2, []) := by decide +kernel
theorem kc_195_924 : xe_code 195 924 = some (.aload_n 0, []) := by decide +kernel
theorem kc_195_925 : xe_code 195 925 = some (.iload 4, []) := by decide +kernel
theorem kc_195_927 : xe_code 195 927 = some (.iconst 1, []) := by decide +kernel
theorem kc_195_928 : xe_code 195 928 = some (.iadd, []) := by decide +kernel
theorem kc_195_929 : xe_code 195 929 = some (.iaload, []) := by decide +kernel
theorem kc_195_930 : xe_code 195 930 = some (.aload_n 0, []) := by decide +kernel
theorem kc_195_931 : xe_code 195 931 = some (.iload 4, []) := by decide +kernel
theorem kc_195_933 : xe_code 195 933 = some (.iconst 2, []) := by decide +kernel
theorem kc_195_934 : xe_code 195 934 = some (.iadd, []) := by decide +kernel
theorem kc_195_935 : xe_code 195 935 = some (.iaload, []) := by decide +kernel
theorem kc_195_936 : xe_code 195 936 = some (.invokevirtual 107, [55, 2, 1321, 12]) := by decide +kernel
theorem kc_195_939 : xe_code 195 939 = some (.pop, []) := by decide +kernel
theorem kc_195_940 : xe_code 195 940 = some (.goto 561, [1501]) := by decide +kernel
theorem kc_195_943 : xe_code 195 943 = some (.aload_n 1, []) := by decide +kernel
theorem kc_195_944 : xe_code 195 944 = some (.aload_n 0, []) := by decide +kernel
theorem kc_195_945 : xe_code 195 945 = some (.iload 4, []) := by decide +kernel
theorem kc_195_947 : xe_code 195 947 = some (.iconst 1, []) := by decide +kernel
theorem kc_195_948 : xe_code 195 948 = some (.iadd, []) := by decide +kernel
theorem kc_195_949 : xe_code 195 949 = some (.iaload, []) := by decide +kernel
theorem kc_195_950 : xe_code 195 950 = some (.aload_n 0, []) := by decide +kernel
theorem kc_195_951 : xe_code 195 951 = some (.iload 4, []) := by decide +kernel
theorem kc_195_953 : xe_code 195 953 = some (.iconst 2, []) := by decide +kernel
theorem kc_195_954 : xe_code 195 954 = some (.iadd, []) := by decide +kernel
theorem kc_195_955 : xe_code 195 955 = some (.iaload, []) := by decide +kernel
theorem kc_195_956 : xe_code 195 956 = some (.ifCond .eq 7, [963]) := by decide +kernel
theorem kc_195_959 : xe_code 195 959 = some (.iconst 1, []) := by decide +kernel
theorem kc_195_960 : xe_code 195 960 = some (.goto 4, [964]) := by decide +kernel
theorem kc_195_963 : xe_code 195 963 = some (.iconst 0, []) := by decide +kernel
theorem kc_195_964 : xe_code 195 964 = some (.invokevirtual 108, [157, 2, 710, 0]) := by decide +kernel
theorem kc_195_967 : xe_code 195 967 = some (.pop, []) := by decide +kernel
theorem kc_195_968 : xe_code 195 968 = some (.aload_n 2, []) := by decide +kernel
theorem kc_195_969 : xe_code 195 969 = some (.aload_n 0, []) := by decide +kernel
theorem kc_195_970 : xe_code 195 970 = some (.iload 4, []) := by decide +kernel
theorem kc_195_972 : xe_code 195 972 = some (.iconst 1, []) := by decide +kernel
theorem kc_195_973 : xe_code 195 973 = some (.iadd, []) := by decide +kernel
theorem kc_195_974 : xe_code 195 974 = some (.iaload, []) := by decide +kernel
theorem kc_195_975 : xe_code 195 975 = some (.aload_n 0, []) := by decide +kernel
theorem kc_195_976 : xe_code 195 976 = some (.iload 4, []) := by decide +kernel
theorem kc_195_978 : xe_code 195 978 = some (.iconst 2, []) := by decide +kernel
theorem kc_195_979 : xe_code 195 979 = some (.iadd, []) := by decide +kernel
theorem kc_195_980 : xe_code 195 980 = some (.iaload, []) := by decide +kernel
theorem kc_195_981 : xe_code 195 981 = some (.ifCond .eq 7, [988]) := by decide +kernel
theorem kc_195_984 : xe_code 195 984 = some (.iconst 1, []) := by decide +kernel
theorem kc_195_985 : xe_code 195 985 = some (.goto 4, [989]) := by decide +kernel
theorem kc_195_988 : xe_code 195 988 = some (.iconst 0, []) := by decide +kernel
theorem kc_195_989 : xe_code 195 989 = some (.invokevirtual 111, [56, 2, 1325, 12]) := by decide +kernel
theorem kc_195_992 : xe_code 195 992 = some (.pop, []) := by decide +kernel
theorem kc_195_993 : xe_code 195 993 = some (.goto 508, [1501]) := by decide +kernel
theorem kc_195_996 : xe_code 195 996 = some (.aload_n 1, []) := by decide +kernel
theorem kc_195_997 : xe_code 195 997 = some (.invokevirtual 112, [158, 0, 714, 0]) := by decide +kernel
theorem kc_195_1000 : xe_code 195 1000 = some (.pop, []) := by decide +kernel
theorem kc_195_1001 : xe_code 195 1001 = some (.aload_n 2, []) := by decide +kernel
theorem kc_195_1002 : xe_code 195 1002 = some (.invokevirtual 115, [57, 0, 1329, 12]) := by decide +kernel
theorem kc_195_1005 : xe_code 195 1005 = some (.pop, []) := by decide +kernel
theorem kc_195_1006 : xe_code 195 1006 = some (.goto 495, [1501]) := by decide +kernel
theorem kc_195_1009 : xe_code 195 1009 = some (.aload_n 1, []) := by decide +kernel
theorem kc_195_1010 : xe_code 195 1010 = some (.invokevirtual 116, [160, 0, 726, 0]) := by decide +kernel
theorem kc_195_1013 : xe_code 195 1013 = some (.pop, []) := by decide +kernel
theorem kc_195_1014 : xe_code 195 1014 = some (.aload_n 2, []) := by decide +kernel
theorem kc_195_1015 : xe_code 195 1015 = some (.invokevirtual 119, [58, 0, 1333, 12]) := by decide +kernel
theorem kc_195_1018 : xe_code 195 1018 = some (.pop, []) := by decide +kernel
theorem kc_195_1019 : xe_code 195 1019 = some (.goto 482, [1501]) := by decide +kernel
theorem kc_195_1022 : xe_code 195 1022 = some (.aload_n 1, []) := by decide +kernel
theorem kc_195_1023 : xe_code 195 1023 = some (.aload_n 0, []) := by decide +kernel
theorem kc_195_1024 : xe_code 195 1024 = some (.iload 4, []) := by decide +kernel
theorem kc_195_1026 : xe_code 195 1026 = some (.iconst 1, []) := by decide +kernel
theorem kc_195_1027 : xe_code 195 1027 = some (.iadd, []) := by decide +kernel
theorem kc_195_1028 : xe_code 195 1028 = some (.iaload, []) := by decide +kernel
theorem kc_195_1029 : xe_code 195 1029 = some (.aload_n 0, []) := by decide +kernel
theorem kc_195_1030 : xe_code 195 1030 = some (.iload 4, []) := by decide +kernel
theorem kc_195_1032 : xe_code 195 1032 = some (.iconst 2, []) := by decide +kernel
theorem kc_195_1033 : xe_code 195 1033 = some (.iadd, []) := by decide +kernel
theorem kc_195_1034 : xe_code 195 1034 = some (.iaload, []) := by decide +kernel
theorem kc_195_1035 : xe_code 195 1035 = some (.aload_n 0, []) := by decide +kernel
theorem kc_195_1036 : xe_code 195 1036 = some (.iload 4, []) := by decide +kernel
theorem kc_195_1038 : xe_code 195 1038 = some (.iconst 3, []) := by decide +kernel
theorem kc_195_1039 : xe_code 195 1039 = some (.iadd, []) := by decide +kernel
theorem kc_195_1040 : xe_code 195 1040 = some (.iaload, []) := by decide +kernel
theorem kc_195_1041 : xe_code 195 1041 = some (.aload_n 0, []) := by decide +kernel
theorem kc_195_1042 : xe_code 195 1042 = some (.iload 4, []) := by decide +kernel
theorem kc_195_1044 : xe_code 195 1044 = some (.iconst 4, []) := by decide +kernel
theorem kc_195_1045 : xe_code 195 1045 = some (.iadd, []) := by decide +kernel
theorem kc_195_1046 : xe_code 195 1046 = some (.iaload, []) := by decide +kernel
theorem kc_195_1047 : xe_code 195 1047 = some (.aload_n 0, []) := by decide +kernel
theorem kc_195_1048 : xe_code 195 1048 = some (.iload 4, []) := by decide +kernel
theorem kc_195_1050 : xe_code 195 1050 = some (.iconst 5, []) := by decide +kernel
theorem kc_195_1051 : xe_code 195 1051 = some (.iadd, []) := by decide +kernel
theorem kc_195_1052 : xe_code 195 1052 = some (.iaload, []) := by decide +kernel
theorem kc_195_1053 : xe_code 195 1053 = some (.invokevirtual 120, [163, 5, 742, 0]) := by decide +kernel
theorem kc_195_1056 : xe_code 195 1056 = some (.pop, []) := by decide +kernel
theorem kc_195_1057 : xe_code 195 1057 = some (.aload_n 2, []) := by decide +kernel
theorem kc_195_1058 : xe_code 195 1058 = some (.aload_n 0, []) := by decide +kernel
theorem kc_195_1059 : xe_code 195 1059 = some (.iload 4, []) := by decide +kernel
theorem kc_195_1061 : xe_code 195 1061 = some (.iconst 1, []) := by decide +kernel
theorem kc_195_1062 : xe_code 195 1062 = some (.iadd, []) := by decide +kernel
theorem kc_195_1063 : xe_code 195 1063 = some (.iaload, []) := by decide +kernel
theorem kc_195_1064 : xe_code 195 1064 = some (.aload_n 0, []) := by decide +kernel
theorem kc_195_1065 : xe_code 195 1065 = some (.iload 4, []) := by decide +kernel
theorem kc_195_1067 : xe_code 195 1067 = some (.iconst 2, []) := by decide +kernel
theorem kc_195_1068 : xe_code 195 1068 = some (.iadd, []) := by decide +kernel
theorem kc_195_1069 : xe_code 195 1069 = some (.iaload, []) := by decide +kernel
theorem kc_195_1070 : xe_code 195 1070 = some (.aload_n 0, []) := by decide +kernel
theorem kc_195_1071 : xe_code 195 1071 = some (.iload 4, []) := by decide +kernel
theorem kc_195_1073 : xe_code 195 1073 = some (.iconst 3, []) := by decide +kernel
theorem kc_195_1074 : xe_code 195 1074 = some (.iadd, []) := by decide +kernel
theorem kc_195_1075 : xe_code 195 1075 = some (.iaload, []) := by decide +kernel
theorem kc_195_1076 : xe_code 195 1076 = some (.aload_n 0, []) := by decide +kernel
theorem kc_195_1077 : xe_code 195 1077 = some (.iload 4, []) := by decide +kernel
theorem kc_195_1079 : xe_code 195 1079 = some (.iconst 4, []) := by decide +kernel
theorem kc_195_1080 : xe_code 195 1080 = some (.iadd, []) := by decide +kernel
theorem kc_195_1081 : xe_code 195 1081 = some (.iaload, []) := by decide +kernel
theorem kc_195_1082 : xe_code 195 1082 = some (.aload_n 0, []) := by decide +kernel
theorem kc_195_1083 : xe_code 195 1083 = some (.iload 4, []) := by decide +kernel
theorem kc_195_1085 : xe_code 195 1085 = some (.iconst 5, []) := by decide +kernel
theorem kc_195_1086 : xe_code 195 1086 = some (.iadd, []) := by decide +kernel
theorem kc_195_1087 : xe_code 195 1087 = some (.iaload, []) := by decide +kernel
theorem kc_195_1088 : xe_code 195 1088 = some (.invokevirtual 124, [61, 5, 1345, 12]) := by decide +kernel
theorem kc_195_1091 : xe_code 195 1091 = some (.pop, []) := by decide +kernel
theorem kc_195_1092 : xe_code 195 1092 = some (.goto 409, [1501]) := by decide +kernel
theorem kc_195_1095 : xe_code 195 1095 = some (.aload_n 1, []) := by decide +kernel
theorem kc_195_1096 : xe_code 195 1096 = some (.aload_n 0, []) := by decide +kernel
theorem kc_195_1097 : xe_code 195 1097 = some (.iload 4, []) := by decide +kernel
theorem kc_195_1099 : xe_code 195 1099 = some (.iconst 1, []) := by decide +kernel
theorem kc_195_1100 : xe_code 195 1100 = some (.iadd, []) := by decide +kernel
theorem kc_195_1101 : xe_code 195 1101 = some (.iaload, []) := by decide +kernel
theorem kc_195_1102 : xe_code 195 1102 = some (.aload_n 0, []) := by decide +kernel
theorem kc_195_1103 : xe_code 195 1103 = some (.iload 4, []) := by decide +kernel
theorem kc_195_1105 : xe_code 195 1105 = some (.iconst 2, []) := by decide +kernel
theorem kc_195_1106 : xe_code 195 1106 = some (.iadd, []) := by decide +kernel
theorem kc_195_1107 : xe_code 195 1107 = some (.iaload, []) := by decide +kernel
theorem kc_195_1108 : xe_code 195 1108 = some (.invokevirtual 125, [165, 2, 750, 0]) := by decide +kernel
theorem kc_195_1111 : xe_code 195 1111 = some (.pop, []) := by decide +kernel
theorem kc_195_1112 : xe_code 195 1112 = some (.aload_n 2, []) := by decide +kernel
theorem kc_195_1113 : xe_code 195 1113 = some (.aload_n 0, []) := by decide +kernel
theorem kc_195_1114 : xe_code 195 1114 = some (.iload 4, []) := by decide +kernel
theorem kc_195_1116 : xe_code 195 1116 = some (.iconst 1, []) := by decide +kernel
theorem kc_195_1117 : xe_code 195 1117 = some (.iadd, []) := by decide +kernel
theorem kc_195_1118 : xe_code 195 1118 = some (.iaload, []) := by decide +kernel
theorem kc_195_1119 : xe_code 195 1119 = some (.aload_n 0, []) := by decide +kernel
theorem kc_195_1120 : xe_code 195 1120 = some (.iload 4, []) := by decide +kernel
theorem kc_195_1122 : xe_code 195 1122 = some (.iconst 2, []) := by decide +kernel
theorem kc_195_1123 : xe_code 195 1123 = some (.iadd, []) := by decide +kernel
theorem kc_195_1124 : xe_code 195 1124 = some (.iaload, []) := by decide +kernel
theorem kc_195_1125 : xe_code 195 1125 = some (.invokevirtual 128, [62, 2, 1349, 12]) := by decide +kernel
theorem kc_195_1128 : xe_code 195 1128 = some (.pop, []) := by decide +kernel
theorem kc_195_1129 : xe_code 195 1129 = some (.goto 372, [1501]) := by decide +kernel
theorem kc_195_1132 : xe_code 195 1132 = some (.aload_n 1, []) := by decide +kernel
theorem kc_195_1133 : xe_code 195 1133 = some (.aload_n 0, []) := by decide +kernel
theorem kc_195_1134 : xe_code 195 1134 = some (.iload 4, []) := by decide +kernel
theorem kc_195_1136 : xe_code 195 1136 = some (.iconst 1, []) := by decide +kernel
theorem kc_195_1137 : xe_code 195 1137 = some (.iadd, []) := by decide +kernel
theorem kc_195_1138 : xe_code 195 1138 = some (.iaload, []) := by decide +kernel
theorem kc_195_1139 : xe_code 195 1139 = some (.aload_n 0, []) := by decide +kernel
theorem kc_195_1140 : xe_code 195 1140 = some (.iload 4, []) := by decide +kernel
theorem kc_195_1142 : xe_code 195 1142 = some (.iconst 2, []) := by decide +kernel
theorem kc_195_1143 : xe_code 195 1143 = some (.iadd, []) := by decide +kernel
theorem kc_195_1144 : xe_code 195 1144 = some (.iaload, []) := by decide +kernel
theorem kc_195_1145 : xe_code 195 1145 = some (.aload_n 0, []) := by decide +kernel
theorem kc_195_1146 : xe_code 195 1146 = some (.iload 4, []) := by decide +kernel
theorem kc_195_1148 : xe_code 195 1148 = some (.iconst 3, []) := by decide +kernel
theorem kc_195_1149 : xe_code 195 1149 = some (.iadd, []) := by decide +kernel
theorem kc_195_1150 : xe_code 195 1150 = some (.iaload, []) := by decide +kernel
theorem kc_195_1151 : xe_code 195 1151 = some (.aload_n 0, []) := by decide +kernel
theorem kc_195_1152 : xe_code 195 1152 = some (.iload 4, []) := by decide +kernel
theorem kc_195_1154 : xe_code 195 1154 = some (.iconst 4, []) := by decide +kernel
theorem kc_195_1155 : xe_code 195 1155 = some (.iadd, []) := by decide +kernel
theorem kc_195_1156 : xe_code 195 1156 = some (.iaload, []) := by decide +kernel
theorem kc_195_1157 : xe_code 195 1157 = some (.invokevirtual 129, [167, 4, 758, 0]) := by decide +kernel
theorem kc_195_1160 : xe_code 195 1160 = some (.pop, []) := by decide +kernel
theorem kc_195_1161 : xe_code 195 1161 = some (.aload_n 2, []) := by decide +kernel
theorem kc_195_1162 : xe_code 195 1162 = some (.aload_n 0, []) := by decide +kernel
theorem kc_195_1163 : xe_code 195 1163 = some (.iload 4, []) := by decide +kernel
theorem kc_195_1165 : xe_code 195 1165 = some (.iconst 1, []) := by decide +kernel
theorem kc_195_1166 : xe_code 195 1166 = some (.iadd, []) := by decide +kernel
theorem kc_195_1167 : xe_code 195 1167 = some (.iaload, []) := by decide +kernel
theorem kc_195_1168 : xe_code 195 1168 = some (.aload_n 0, []) := by decide +kernel
theorem kc_195_1169 : xe_code 195 1169 = some (.iload 4, []) := by decide +kernel
theorem kc_195_1171 : xe_code 195 1171 = some (.iconst 2, []) := by decide +kernel
theorem kc_195_1172 : xe_code 195 1172 = some (.iadd, []) := by decide +kernel
theorem kc_195_1173 : xe_code 195 1173 = some (.iaload, []) := by decide +kernel
theorem kc_195_1174 : xe_code 195 1174 = some (.aload_n 0, []) := by decide +kernel
theorem kc_195_1175 : xe_code 195 1175 = some (.iload 4, []) := by decide +kernel
theorem kc_195_1177 : xe_code 195 1177 = some (.iconst 3, []) := by decide +kernel
theorem kc_195_1178 : xe_code 195 1178 = some (.iadd, []) := by decide +kernel
theorem kc_195_1179 : xe_code 195 1179 = some (.iaload, []) := by decide +kernel
theorem kc_195_1180 : xe_code 195 1180 = some (.aload_n 0, []) := by decide +kernel
theorem kc_195_1181 : xe_code 195 1181 = some (.iload 4, []) := by decide +kernel
theorem kc_195_1183 : xe_code 195 1183 = some (.iconst 4, []) := by decide +kernel
theorem kc_195_1184 : xe_code 195 1184 = some (.iadd, []) := by decide +kernel
theorem kc_195_1185 : xe_code 195 1185 = some (.iaload, []) := by decide +kernel
theorem kc_195_1186 : xe_code 195 1186 = some (.invokevirtual 132, [64, 4, 1357, 12]) := by decide +kernel
theorem kc_195_1189 : xe_code 195 1189 = some (.pop, []) := by decide +kernel
theorem kc_195_1190 : xe_code 195 1190 = some (.goto 311, [1501]) := by decide +kernel
theorem kc_195_1193 : xe_code 195 1193 = some (.aload_n 1, []) := by decide +kernel
theorem kc_195_1194 : xe_code 195 1194 = some (.invokevirtual 133, [169, 0, 766, 0]) := by decide +kernel
theorem kc_195_1197 : xe_code 195 1197 = some (.pop, []) := by decide +kernel
theorem kc_195_1198 : xe_code 195 1198 = some (.aload_n 2, []) := by decide +kernel
theorem kc_195_1199 : xe_code 195 1199 = some (.invokevirtual 136, [65, 0, 1361, 12]) := by decide +kernel
theorem kc_195_1202 : xe_code 195 1202 = some (.pop, []) := by decide +kernel
theorem kc_195_1203 : xe_code 195 1203 = some (.goto 298, [1501]) := by decide +kernel
theorem kc_195_1206 : xe_code 195 1206 = some (.aload_n 1, []) := by decide +kernel
theorem kc_195_1207 : xe_code 195 1207 = some (.aload_n 0, []) := by decide +kernel
theorem kc_195_1208 : xe_code 195 1208 = some (.iload 4, []) := by decide +kernel
theorem kc_195_1210 : xe_code 195 1210 = some (.iconst 1, []) := by decide +kernel
theorem kc_195_1211 : xe_code 195 1211 = some (.iadd, []) := by decide +kernel
theorem kc_195_1212 : xe_code 195 1212 = some (.iaload, []) := by decide +kernel
theorem kc_195_1213 : xe_code 195 1213 = some (.invokevirtual 137, [172, 1, 779, 0]) := by decide +kernel
theorem kc_195_1216 : xe_code 195 1216 = some (.pop, []) := by decide +kernel
theorem kc_195_1217 : xe_code 195 1217 = some (.aload_n 2, []) := by decide +kernel
theorem kc_195_1218 : xe_code 195 1218 = some (.aload_n 0, []) := by decide +kernel
theorem kc_195_1219 : xe_code 195 1219 = some (.iload 4, []) := by decide +kernel
theorem kc_195_1221 : xe_code 195 1221 = some (.iconst 1, []) := by decide +kernel
theorem kc_195_1222 : xe_code 195 1222 = some (.iadd, []) := by decide +kernel
theorem kc_195_1223 : xe_code 195 1223 = some (.iaload, []) := by decide +kernel
theorem kc_195_1224 : xe_code 195 1224 = some (.invokevirtual 140, [68, 1, 1373, 12]) := by decide +kernel
theorem kc_195_1227 : xe_code 195 1227 = some (.pop, []) := by decide +kernel
theorem kc_195_1228 : xe_code 195 1228 = some (.goto 273, [1501]) := by decide +kernel
theorem kc_195_1231 : xe_code 195 1231 = some (.aload_n 1, []) := by decide +kernel
theorem kc_195_1232 : xe_code 195 1232 = some (.aload_n 0, []) := by decide +kernel
theorem kc_195_1233 : xe_code 195 1233 = some (.iload 4, []) := by decide +kernel
theorem kc_195_1235 : xe_code 195 1235 = some (.iconst 1, []) := by decide +kernel
theorem kc_195_1236 : xe_code 195 1236 = some (.iadd, []) := by decide +kernel
theorem kc_195_1237 : xe_code 195 1237 = some (.iaload, []) := by decide +kernel
theorem kc_195_1238 : xe_code 195 1238 = some (.aload_n 0, []) := by decide +kernel
theorem kc_195_1239 : xe_code 195 1239 = some (.iload 4, []) := by decide +kernel
theorem kc_195_1241 : xe_code 195 1241 = some (.iconst 2, []) := by decide +kernel
theorem kc_195_1242 : xe_code 195 1242 = some (.iadd, []) := by decide +kernel
theorem kc_195_1243 : xe_code 195 1243 = some (.iaload, []) := by decide +kernel
theorem kc_195_1244 : xe_code 195 1244 = some (.aload_n 0, []) := by decide +kernel
theorem kc_195_1245 : xe_code 195 1245 = some (.iload 4, []) := by decide +kernel
theorem kc_195_1247 : xe_code 195 1247 = some (.iconst 3, []) := by decide +kernel
theorem kc_195_1248 : xe_code 195 1248 = some (.iadd, []) := by decide +kernel
theorem kc_195_1249 : xe_code 195 1249 = some (.iaload, []) := by decide +kernel
theorem kc_195_1250 : xe_code 195 1250 = some (.aload_n 0, []) := by decide +kernel
theorem kc_195_1251 : xe_code 195 1251 = some (.iload 4, []) := by decide +kernel
theorem kc_195_1253 : xe_code 195 1253 = some (.iconst 4, []) := by decide +kernel
theorem kc_195_1254 : xe_code 195 1254 = some (.iadd, []) := by decide +kernel
theorem kc_195_1255 : xe_code 195 1255 = some (.iaload, []) := by decide +kernel
theorem kc_195_1256 : xe_code 195 1256 = some (.invokevirtual 141, [177, 4, 800, 0]) := by decide +kernel
theorem kc_195_1259 : xe_code 195 1259 = some (.pop, []) := by decide +kernel
theorem kc_195_1260 : xe_code 195 1260 = some (.aload_n 2, []) := by decide +kernel
theorem kc_195_1261 : xe_code 195 1261 = some (.aload_n 0, []) := by decide +kernel
theorem kc_195_1262 : xe_code 195 1262 = some (.iload 4, []) := by decide +kernel
theorem kc_195_1264 : xe_code 195 1264 = some (.iconst 1, []) := by decide +kernel
theorem kc_195_1265 : xe_code 195 1265 = some (.iadd, []) := by decide +kernel
theorem kc_195_1266 : xe_code 195 1266 = some (.iaload, []) := by decide +kernel
theorem kc_195_1267 : xe_code 195 1267 = some (.aload_n 0, []) := by decide +kernel
theorem kc_195_1268 : xe_code 195 1268 = some (.iload 4, []) := by decide +kernel
theorem kc_195_1270 : xe_code 195 1270 = some (.iconst 2, []) := by decide +kernel
theorem kc_195_1271 : xe_code 195 1271 = some (.iadd, []) := by decide +kernel
theorem kc_195_1272 : xe_code 195 1272 = some (.iaload, []) := by decide +kernel
theorem kc_195_1273 : xe_code 195 1273 = some (.aload_n 0, []) := by decide +kernel
theorem kc_195_1274 : xe_code 195 1274 = some (.iload 4, []) := by decide +kernel
theorem kc_195_1276 : xe_code 195 1276 = some (.iconst 3, []) := by decide +kernel
theorem kc_195_1277 : xe_code 195 1277 = some (.iadd, []) := by decide +kernel
theorem kc_195_1278 : xe_code 195 1278 = some (.iaload, []) := by decide +kernel
theorem kc_195_1279 : xe_code 195 1279 = some (.aload_n 0, []) := by decide +kernel
theorem kc_195_1280 : xe_code 195 1280 = some (.iload 4, []) := by decide +kernel
theorem kc_195_1282 : xe_code 195 1282 = some (.iconst 4, []) := by decide +kernel
theorem kc_195_1283 : xe_code 195 1283 = some (.iadd, []) := by decide +kernel
theorem kc_195_1284 : xe_code 195 1284 = some (.iaload, []) := by decide +kernel
theorem kc_195_1285 : xe_code 195 1285 = some (.invokevirtual 144, [70, 4, 1381, 12]) := by decide +kernel
theorem kc_195_1288 : xe_code 195 1288 = some (.pop, []) := by decide +kernel
theorem kc_195_1289 : xe_code 195 1289 = some (.goto 212, [1501]) := by decide +kernel
theorem kc_195_1292 : xe_code 195 1292 = some (.aload_n 1, []) := by decide +kernel
theorem kc_195_1293 : xe_code 195 1293 = some (.aload_n 0, []) := by decide +kernel
theorem kc_195_1294 : xe_code 195 1294 = some (.iload 4, []) := by decide +kernel
theorem kc_195_1296 : xe_code 195 1296 = some (.iconst 1, []) := by decide +kernel
theorem kc_195_1297 : xe_code 195 1297 = some (.iadd, []) := by decide +kernel
theorem kc_195_1298 : xe_code 195 1298 = some (.iaload, []) := by decide +kernel
theorem kc_195_1299 : xe_code 195 1299 = some (.ifCond .eq 7, [1306]) := by decide +kernel
theorem kc_195_1302 : xe_code 195 1302 = some (.iconst 1, []) := by decide +kernel
theorem kc_195_1303 : xe_code 195 1303 = some (.goto 4, [1307]) := by decide +kernel
theorem kc_195_1306 : xe_code 195 1306 = some (.iconst 0, []) := by decide +kernel
theorem kc_195_1307 : xe_code 195 1307 = some (.invokevirtual 145, [179, 1, 808, 0]) := by decide +kernel
theorem kc_195_1310 : xe_code 195 1310 = some (.pop, []) := by decide +kernel
theorem kc_195_1311 : xe_code 195 1311 = some (.aload_n 2, []) := by decide +kernel
theorem kc_195_1312 : xe_code 195 1312 = some (.aload_n 0, []) := by decide +kernel
theorem kc_195_1313 : xe_code 195 1313 = some (.iload 4, []) := by decide +kernel
theorem kc_195_1315 : xe_code 195 1315 = some (.iconst 1, []) := by decide +kernel
theorem kc_195_1316 : xe_code 195 1316 = some (.iadd, []) := by decide +kernel
theorem kc_195_1317 : xe_code 195 1317 = some (.iaload, []) := by decide +kernel
theorem kc_195_1318 : xe_code 195 1318 = some (.ifCond .eq 7, [1325]) := by decide +kernel
theorem kc_195_1321 : xe_code 195 1321 = some (.iconst 1, []) := by decide +kernel
theorem kc_195_1322 : xe_code 195 1322 = some (.goto 4, [1326]) := by decide +kernel
theorem kc_195_1325 : xe_code 195 1325 = some (.iconst 0, []) := by decide +kernel
theorem kc_195_1326 : xe_code 195 1326 = some (.invokevirtual 149, [71, 1, 1385, 12]) := by decide +kernel
theorem kc_195_1329 : xe_code 195 1329 = some (.pop, []) := by decide +kernel
theorem kc_195_1330 : xe_code 195 1330 = some (.goto 171, [1501]) := by decide +kernel
theorem kc_195_1333 : xe_code 195 1333 = some (.aload_n 1, []) := by decide +kernel
theorem kc_195_1334 : xe_code 195 1334 = some (.aload_n 0, []) := by decide +kernel
theorem kc_195_1335 : xe_code 195 1335 = some (.iload 4, []) := by decide +kernel
theorem kc_195_1337 : xe_code 195 1337 = some (.iconst 1, []) := by decide +kernel
theorem kc_195_1338 : xe_code 195 1338 = some (.iadd, []) := by decide +kernel
theorem kc_195_1339 : xe_code 195 1339 = some (.iaload, []) := by decide +kernel
theorem kc_195_1340 : xe_code 195 1340 = some (.ifCond .eq 7, [1347]) := by decide +kernel
theorem kc_195_1343 : xe_code 195 1343 = some (.iconst 1, []) := by decide +kernel
theorem kc_195_1344 : xe_code 195 1344 = some (.goto 4, [1348]) := by decide +kernel
theorem kc_195_1347 : xe_code 195 1347 = some (.iconst 0, []) := by decide +kernel
theorem kc_195_1348 : xe_code 195 1348 = some (.aload_n 0, []) := by decide +kernel
theorem kc_195_1349 : xe_code 195 1349 = some (.iload 4, []) := by decide +kernel
theorem kc_195_1351 : xe_code 195 1351 = some (.iconst 2, []) := by decide +kernel
theorem kc_195_1352 : xe_code 195 1352 = some (.iadd, []) := by decide +kernel
theorem kc_195_1353 : xe_code 195 1353 = some (.iaload, []) := by decide +kernel
theorem kc_195_1354 : xe_code 195 1354 = some (.aload_n 0, []) := by decide +kernel
theorem kc_195_1355 : xe_code 195 1355 = some (.iload 4, []) := by decide +kernel
theorem kc_195_1357 : xe_code 195 1357 = some (.iconst 3, []) := by decide +kernel
theorem kc_195_1358 : xe_code 195 1358 = some (.iadd, []) := by decide +kernel
theorem kc_195_1359 : xe_code 195 1359 = some (.iaload, []) := by decide +kernel
theorem kc_195_1360 : xe_code 195 1360 = some (.ifCond .eq 7, [1367]) := by decide +kernel
theorem kc_195_1363 : xe_code 195 1363 = some (.iconst 1, []) := by decide +kernel
theorem kc_195_1364 : xe_code 195 1364 = some (.goto 4, [1368]) := by decide +kernel
theorem kc_195_1367 : xe_code 195 1367 = some (.iconst 0, []) := by decide +kernel
theorem kc_195_1368 : xe_code 195 1368 = some (.invokevirtual 150, [180, 3, 812, 0]) := by decide +kernel
theorem kc_195_1371 : xe_code 195 1371 = some (.pop, []) := by decide +kernel
theorem kc_195_1372 : xe_code 195 1372 = some (.aload_n 2, []) := by decide +kernel
theorem kc_195_1373 : xe_code 195 1373 = some (.aload_n 0, []) := by decide +kernel
theorem kc_195_1374 : xe_code 195 1374 = some (.iload 4, []) := by decide +kernel
theorem kc_195_1376 : xe_code 195 1376 = some (.iconst 1, []) := by decide +kernel
theorem kc_195_1377 : xe_code 195 1377 = some (.iadd, []) := by decide +kernel
theorem kc_195_1378 : xe_code 195 1378 = some (.iaload, []) := by decide +kernel
theorem kc_195_1379 : xe_code 195 1379 = some (.ifCond .eq 7, [1386]) := by decide +kernel
theorem kc_195_1382 : xe_code 195 1382 = some (.iconst 1, []) := by decide +kernel
theorem kc_195_1383 : xe_code 195 1383 = some (.goto 4, [1387]) := by decide +kernel
theorem kc_195_1386 : xe_code 195 1386 = some (.iconst 0, []) := by decide +kernel
theorem kc_195_1387 : xe_code 195 1387 = some (.aload_n 0, []) := by decide +kernel
theorem kc_195_1388 : xe_code 195 1388 = some (.iload 4, []) := by decide +kernel
theorem kc_195_1390 : xe_code 195 1390 = some (.iconst 2, []) := by decide +kernel
theorem kc_195_1391 : xe_code 195 1391 = some (.iadd, []) := by decide +kernel
theorem kc_195_1392 : xe_code 195 1392 = some (.iaload, []) := by decide +kernel
theorem kc_195_1393 : xe_code 195 1393 = some (.aload_n 0, []) := by decide +kernel
theorem kc_195_1394 : xe_code 195 1394 = some (.iload 4, []) := by decide +kernel
theorem kc_195_1396 : xe_code 195 1396 = some (.iconst 3, []) := by decide +kernel
theorem kc_195_1397 : xe_code 195 1397 = some (.iadd, []) := by decide +kernel
theorem kc_195_1398 : xe_code 195 1398 = some (.iaload, []) := by decide +kernel
theorem kc_195_1399 : xe_code 195 1399 = some (.ifCond .eq 7, [1406]) := by decide +kernel
theorem kc_195_1402 : xe_code 195 1402 = some (.iconst 1, []) := by decide +kernel
theorem kc_195_1403 : xe_code 195 1403 = some (.goto 4, [1407]) := by decide +kernel
theorem kc_195_1406 : xe_code 195 1406 = some (.iconst 0, []) := by decide +kernel
theorem kc_195_1407 : xe_code 195 1407 = some (.invokevirtual 154, [72, 3, 1389, 12]) := by decide +kernel
theorem kc_195_1410 : xe_code 195 1410 = some (.pop, []) := by decide +kernel
theorem kc_195_1411 : xe_code 195 1411 = some (.goto 90, [1501]) := by decide +kernel
theorem kc_195_1414 : xe_code 195 1414 = some (.aload_n 1, []) := by decide +kernel
theorem kc_195_1415 : xe_code 195 1415 = some (.aload_n 0, []) := by decide +kernel
theorem kc_195_1416 : xe_code 195 1416 = some (.iload 4, []) := by decide +kernel
theorem kc_195_1418 : xe_code 195 1418 = some (.iconst 1, []) := by decide +kernel
theorem kc_195_1419 : xe_code 195 1419 = some (.iadd, []) := by decide +kernel
theorem kc_195_1420 : xe_code 195 1420 = some (.iaload, []) := by decide +kernel
theorem kc_195_1421 : xe_code 195 1421 = some (.aload_n 0, []) := by decide +kernel
theorem kc_195_1422 : xe_code 195 1422 = some (.iload 4, []) := by decide +kernel
theorem kc_195_1424 : xe_code 195 1424 = some (.iconst 2, []) := by decide +kernel
theorem kc_195_1425 : xe_code 195 1425 = some (.iadd, []) := by decide +kernel
theorem kc_195_1426 : xe_code 195 1426 = some (.iaload, []) := by decide +kernel
theorem kc_195_1427 : xe_code 195 1427 = some (.invokevirtual 155, [182, 2, 821, 0]) := by decide +kernel
theorem kc_195_1430 : xe_code 195 1430 = some (.pop, []) := by decide +kernel
theorem kc_195_1431 : xe_code 195 1431 = some (.aload_n 2, []) := by decide +kernel
theorem kc_195_1432 : xe_code 195 1432 = some (.aload_n 0, []) := by decide +kernel
theorem kc_195_1433 : xe_code 195 1433 = some (.iload 4, []) := by decide +kernel
theorem kc_195_1435 : xe_code 195 1435 = some (.iconst 1, []) := by decide +kernel
theorem kc_195_1436 : xe_code 195 1436 = some (.iadd, []) := by decide +kernel
theorem kc_195_1437 : xe_code 195 1437 = some (.iaload, []) := by decide +kernel
theorem kc_195_1438 : xe_code 195 1438 = some (.aload_n 0, []) := by decide +kernel
theorem kc_195_1439 : xe_code 195 1439 = some (.iload 4, []) := by decide +kernel
theorem kc_195_1441 : xe_code 195 1441 = some (.iconst 2, []) := by decide +kernel
theorem kc_195_1442 : xe_code 195 1442 = some (.iadd, []) := by decide +kernel
theorem kc_195_1443 : xe_code 195 1443 = some (.iaload, []) := by decide +kernel
theorem kc_195_1444 : xe_code 195 1444 = some (.invokevirtual 158, [73, 2, 1393, 12]) := by decide +kernel
theorem kc_195_1447 : xe_code 195 1447 = some (.pop, []) := by decide +kernel
theorem kc_195_1448 : xe_code 195 1448 = some (.goto 53, [1501]) := by decide +kernel
theorem kc_195_1451 : xe_code 195 1451 = some (.aload_n 1, []) := by decide +kernel
theorem kc_195_1452 : xe_code 195 1452 = some (.aload_n 0, []) := by decide +kernel
theorem kc_195_1453 : xe_code 195 1453 = some (.iload 4, []) := by decide +kernel
theorem kc_195_1455 : xe_code 195 1455 = some (.iconst 1, []) := by decide +kernel
theorem kc_195_1456 : xe_code 195 1456 = some (.iadd, []) := by decide +kernel
theorem kc_195_1457 : xe_code 195 1457 = some (.iaload, []) := by decide +kernel
theorem kc_195_1458 : xe_code 195 1458 = some (.invokevirtual 159, [188, 1, 845, 0]) := by decide +kernel
theorem kc_195_1461 : xe_code 195 1461 = some (.pop, []) := by decide +kernel
theorem kc_195_1462 : xe_code 195 1462 = some (.aload_n 2, []) := by decide +kernel
theorem kc_195_1463 : xe_code 195 1463 = some (.aload_n 0, []) := by decide +kernel
theorem kc_195_1464 : xe_code 195 1464 = some (.iload 4, []) := by decide +kernel
theorem kc_195_1466 : xe_code 195 1466 = some (.iconst 1, []) := by decide +kernel
theorem kc_195_1467 : xe_code 195 1467 = some (.iadd, []) := by decide +kernel
theorem kc_195_1468 : xe_code 195 1468 = some (.iaload, []) := by decide +kernel
theorem kc_195_1469 : xe_code 195 1469 = some (.invokevirtual 162, [74, 1, 1397, 12]) := by decide +kernel
theorem kc_195_1472 : xe_code 195 1472 = some (.pop, []) := by decide +kernel
theorem kc_195_1473 : xe_code 195 1473 = some (.goto 28, [1501]) := by decide +kernel
theorem kc_195_1476 : xe_code 195 1476 = some (.aload_n 1, []) := by decide +kernel
theorem kc_195_1477 : xe_code 195 1477 = some (.aload_n 0, []) := by decide +kernel
theorem kc_195_1478 : xe_code 195 1478 = some (.iload 4, []) := by decide +kernel
theorem kc_195_1480 : xe_code 195 1480 = some (.iconst 1, []) := by decide +kernel
theorem kc_195_1481 : xe_code 195 1481 = some (.iadd, []) := by decide +kernel
theorem kc_195_1482 : xe_code 195 1482 = some (.iaload, []) := by decide +kernel
theorem kc_195_1483 : xe_code 195 1483 = some (.invokevirtual 163, [190, 1, 853, 0]) := by decide +kernel
theorem kc_195_1486 : xe_code 195 1486 = some (.pop, []) := by decide +kernel
theorem kc_195_1487 : xe_code 195 1487 = some (.aload_n 2, []) := by decide +kernel
theorem kc_195_1488 : xe_code 195 1488 = some (.aload_n 0, []) := by decide +kernel
theorem kc_195_1489 : xe_code 195 1489 = some (.iload 4, []) := by decide +kernel
theorem kc_195_1491 : xe_code 195 1491 = some (.iconst 1, []) := by decide +kernel
theorem kc_195_1492 : xe_code 195 1492 = some (.iadd, []) := by decide +kernel
theorem kc_195_1493 : xe_code 195 1493 = some (.iaload, []) := by decide +kernel
theorem kc_195_1494 : xe_code 195 1494 = some (.invokevirtual 166, [75, 1, 1401, 12]) := by decide +kernel
theorem kc_195_1497 : xe_code 195 1497 = some (.pop, []) := by decide +kernel
theorem kc_195_1498 : xe_code 195 1498 = some (.goto 3, [1501]) := by decide +kernel
theorem kc_195_1501 : xe_code 195 1501 = some (.iinc 4 6, []) := by decide +kernel
theorem kc_195_1504 : xe_code 195 1504 = some (.goto (-1481), [23]) := by decide +kernel
theorem kc_195_1507 : xe_code 195 1507 = some (.iconst 1, []) := by decide +kernel
theorem kc_195_1508 : xe_code 195 1508 = some (.ireturn, []) := by decide +kernel
