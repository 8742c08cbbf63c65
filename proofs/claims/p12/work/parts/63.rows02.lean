theorem kc_148_0 : xe_code 148 0 = some (.iload_n 1, []) := kg_148_0 (i := 0) rfl
theorem kc_148_1 : xe_code 148 1 = some (.ifCond .eq 15, [16]) := kg_148_0 (i := 1) rfl
theorem kc_148_4 : xe_code 148 4 = some (.iload_n 1, []) := kg_148_0 (i := 2) rfl
theorem kc_148_5 : xe_code 148 5 = some (.iconst 1, []) := kg_148_0 (i := 3) rfl
theorem kc_148_6 : xe_code 148 6 = some (.if_icmp .eq 10, [16]) := kg_148_0 (i := 4) rfl
theorem kc_148_9 : xe_code 148 9 = some (.aload_n 0, []) := kg_148_0 (i := 5) rfl
theorem kc_148_10 : xe_code 148 10 = some (.bipush (-2), []) := kg_148_0 (i := 6) rfl
theorem kc_148_12 : xe_code 148 12 = some (.invokevirtual 72, [90, 1, 407, 0]) := kg_148_0 (i := 7) rfl
theorem kc_148_15 : xe_code 148 15 = some (.ireturn, []) := kg_148_0 (i := 8) rfl
theorem kc_148_16 : xe_code 148 16 = some (.aload_n 0, []) := kg_148_0 (i := 9) rfl
theorem kc_148_17 : xe_code 148 17 = some (.getfield 28, [0, 2, 371]) := kg_148_0 (i := 10) rfl
theorem kc_148_20 : xe_code 148 20 = some (.invokevirtual 211, [149, 0, 671, 3]) := kg_148_0 (i := 11) rfl
theorem kc_148_23 : xe_code 148 23 = some (.istore_n 2, []) := kg_148_0 (i := 12) rfl
theorem kc_148_24 : xe_code 148 24 = some (.iload_n 2, []) := kg_148_0 (i := 13) rfl
theorem kc_148_25 : xe_code 148 25 = some (.bipush (-9), []) := kg_148_0 (i := 14) rfl
theorem kc_148_27 : xe_code 148 27 = some (.if_icmp .eq 8, [35]) := kg_148_0 (i := 15) rfl
theorem kc_148_30 : xe_code 148 30 = some (.iload_n 1, []) := kg_148_0 (i := 16) rfl
theorem kc_148_31 : xe_code 148 31 = some (.iconst 1, []) := kg_148_0 (i := 17) rfl
theorem kc_148_32 : xe_code 148 32 = some (.if_icmp .ne 5, [37]) := kg_148_0 (i := 18) rfl
theorem kc_148_35 : xe_code 148 35 = some (.iload_n 2, []) := kg_148_0 (i := 19) rfl
theorem kc_148_36 : xe_code 148 36 = some (.ireturn, []) := kg_148_0 (i := 20) rfl
theorem kc_148_37 : xe_code 148 37 = some (.aload_n 0, []) := kg_148_0 (i := 21) rfl
theorem kc_148_38 : xe_code 148 38 = some (.getfield 28, [0, 2, 371]) := kg_148_0 (i := 22) rfl
theorem kc_148_41 : xe_code 148 41 = some (.iload_n 2, []) := kg_148_0 (i := 23) rfl
theorem kc_148_42 : xe_code 148 42 = some (.invokevirtual 214, [150, 1, 675, 3]) := kg_148_0 (i := 24) rfl
theorem kc_148_45 : xe_code 148 45 = some (.ireturn, []) := kg_148_0 (i := 25) rfl
theorem kc_149_0 : xe_code 149 0 = some (.bipush (-9), []) := kg_149_0 (i := 0) rfl
theorem kc_149_2 : xe_code 149 2 = some (.istore_n 1, []) := kg_149_0 (i := 1) rfl
theorem kc_149_3 : xe_code 149 3 = some (.iconst 0, []) := kg_149_0 (i := 2) rfl
theorem kc_149_4 : xe_code 149 4 = some (.istore_n 2, []) := kg_149_0 (i := 3) rfl
theorem kc_149_5 : xe_code 149 5 = some (.iload_n 2, []) := kg_149_0 (i := 4) rfl
theorem kc_149_6 : xe_code 149 6 = some (.aload_n 0, []) := kg_149_0 (i := 5) rfl
theorem kc_149_7 : xe_code 149 7 = some (.invokevirtual 47, [139, 0, 621, 3]) := kg_149_0 (i := 6) rfl
theorem kc_149_10 : xe_code 149 10 = some (.if_icmp .ge 37, [47]) := kg_149_0 (i := 7) rfl
theorem kc_149_13 : xe_code 149 13 = some (.iload_n 2, []) := kg_149_0 (i := 8) rfl
theorem kc_149_14 : xe_code 149 14 = some (.invokestatic 82, [4, 1, 661, 0]) := kg_149_0 (i := 9) rfl
theorem kc_149_17 : xe_code 149 17 = some (.istore_n 3, []) := kg_149_0 (i := 10) rfl
theorem kc_149_18 : xe_code 149 18 = some (.aload_n 0, []) := kg_149_0 (i := 11) rfl
theorem kc_149_19 : xe_code 149 19 = some (.iload_n 2, []) := kg_149_0 (i := 12) rfl
theorem kc_149_20 : xe_code 149 20 = some (.invokevirtual 78, [146, 1, 652, 3]) := kg_149_0 (i := 13) rfl
theorem kc_149_23 : xe_code 149 23 = some (.lconst 0, []) := kg_149_0 (i := 14) rfl
theorem kc_149_24 : xe_code 149 24 = some (.lcmp, []) := kg_149_0 (i := 15) rfl
theorem kc_149_25 : xe_code 149 25 = some (.ifCond .ne 16, [41]) := kg_149_0 (i := 16) rfl
theorem kc_149_28 : xe_code 149 28 = some (.iload_n 1, []) := kg_149_0 (i := 17) rfl
theorem kc_149_29 : xe_code 149 29 = some (.bipush (-9), []) := kg_149_0 (i := 18) rfl
theorem kc_149_31 : xe_code 149 31 = some (.if_icmp .eq 8, [39]) := kg_149_0 (i := 19) rfl
theorem kc_149_34 : xe_code 149 34 = some (.iload_n 3, []) := kg_149_0 (i := 20) rfl
theorem kc_149_35 : xe_code 149 35 = some (.iload_n 1, []) := kg_149_0 (i := 21) rfl
theorem kc_149_36 : xe_code 149 36 = some (.if_icmp .ge 5, [41]) := kg_149_0 (i := 22) rfl
theorem kc_149_39 : xe_code 149 39 = some (.iload_n 3, []) := kg_149_0 (i := 23) rfl
theorem kc_149_40 : xe_code 149 40 = some (.istore_n 1, []) := kg_149_0 (i := 24) rfl
theorem kc_149_41 : xe_code 149 41 = some (.iinc 2 1, []) := kg_149_0 (i := 25) rfl
theorem kc_149_44 : xe_code 149 44 = some (.goto (-39), [5]) := kg_149_0 (i := 26) rfl
theorem kc_149_47 : xe_code 149 47 = some (.iload_n 1, []) := kg_149_0 (i := 27) rfl
theorem kc_149_48 : xe_code 149 48 = some (.ireturn, []) := kg_149_0 (i := 28) rfl
theorem kc_150_0 : xe_code 150 0 = some (.iconst 0, []) := kg_150_0 (i := 0) rfl
theorem kc_150_1 : xe_code 150 1 = some (.istore_n 2, []) := kg_150_0 (i := 1) rfl
theorem kc_150_2 : xe_code 150 2 = some (.iconst 0, []) := kg_150_0 (i := 2) rfl
theorem kc_150_3 : xe_code 150 3 = some (.istore_n 3, []) := kg_150_0 (i := 3) rfl
theorem kc_150_4 : xe_code 150 4 = some (.iload_n 3, []) := kg_150_0 (i := 4) rfl
theorem kc_150_5 : xe_code 150 5 = some (.aload_n 0, []) := kg_150_0 (i := 5) rfl
theorem kc_150_6 : xe_code 150 6 = some (.invokevirtual 47, [139, 0, 621, 3]) := kg_150_0 (i := 6) rfl
theorem kc_150_9 : xe_code 150 9 = some (.if_icmp .ge 30, [39]) := kg_150_0 (i := 7) rfl
theorem kc_150_12 : xe_code 150 12 = some (.iload_n 3, []) := kg_150_0 (i := 8) rfl
theorem kc_150_13 : xe_code 150 13 = some (.invokestatic 82, [4, 1, 661, 0]) := kg_150_0 (i := 9) rfl
theorem kc_150_16 : xe_code 150 16 = some (.iload_n 1, []) := kg_150_0 (i := 10) rfl
theorem kc_150_17 : xe_code 150 17 = some (.if_icmp .ne 16, [33]) := kg_150_0 (i := 11) rfl
theorem kc_150_20 : xe_code 150 20 = some (.aload_n 0, []) := kg_150_0 (i := 12) rfl
theorem kc_150_21 : xe_code 150 21 = some (.iload_n 3, []) := kg_150_0 (i := 13) rfl
theorem kc_150_22 : xe_code 150 22 = some (.invokevirtual 78, [146, 1, 652, 3]) := kg_150_0 (i := 14) rfl
theorem kc_150_25 : xe_code 150 25 = some (.lconst 0, []) := kg_150_0 (i := 15) rfl
theorem kc_150_26 : xe_code 150 26 = some (.lcmp, []) := kg_150_0 (i := 16) rfl
theorem kc_150_27 : xe_code 150 27 = some (.ifCond .ne 6, [33]) := kg_150_0 (i := 17) rfl
theorem kc_150_30 : xe_code 150 30 = some (.iinc 2 1, []) := kg_150_0 (i := 18) rfl
theorem kc_150_33 : xe_code 150 33 = some (.iinc 3 1, []) := kg_150_0 (i := 19) rfl
theorem kc_150_36 : xe_code 150 36 = some (.goto (-32), [4]) := kg_150_0 (i := 20) rfl
theorem kc_150_39 : xe_code 150 39 = some (.iload_n 2, []) := kg_150_0 (i := 21) rfl
theorem kc_150_40 : xe_code 150 40 = some (.ireturn, []) := kg_150_0 (i := 22) rfl
theorem kc_151_0 : xe_code 151 0 = some (.aload_n 0, []) := kg_151_0 (i := 0) rfl
theorem kc_151_1 : xe_code 151 1 = some (.invokevirtual 217, [152, 0, 683, 0]) := kg_151_0 (i := 1) rfl
theorem kc_151_4 : xe_code 151 4 = some (.invokestatic 221, [5, 1, 696, 0]) := kg_151_0 (i := 2) rfl
theorem kc_151_7 : xe_code 151 7 = some (.ireturn, []) := kg_151_0 (i := 3) rfl
theorem kc_152_0 : xe_code 152 0 = some (.aload_n 0, []) := kg_152_0 (i := 0) rfl
theorem kc_152_1 : xe_code 152 1 = some (.getfield 35, [0, 3, 372]) := kg_152_0 (i := 1) rfl
theorem kc_152_4 : xe_code 152 4 = some (.aload_n 0, []) := kg_152_0 (i := 2) rfl
theorem kc_152_5 : xe_code 152 5 = some (.getfield 28, [0, 2, 371]) := kg_152_0 (i := 3) rfl
theorem kc_152_8 : xe_code 152 8 = some (.invokevirtual 311, [153, 0, 687, 3]) := kg_152_0 (i := 4) rfl
theorem kc_152_11 : xe_code 152 11 = some (.invokevirtual 314, [154, 1, 691, 6]) := kg_152_0 (i := 5) rfl
theorem kc_152_14 : xe_code 152 14 = some (.lreturn, []) := kg_152_0 (i := 6) rfl
theorem kc_153_0 : xe_code 153 0 = some (.lconst 0, []) := kg_153_0 (i := 0) rfl
theorem kc_153_1 : xe_code 153 1 = some (.lstore_n 1, []) := kg_153_0 (i := 1) rfl
theorem kc_153_2 : xe_code 153 2 = some (.iconst 0, []) := kg_153_0 (i := 2) rfl
theorem kc_153_3 : xe_code 153 3 = some (.istore_n 3, []) := kg_153_0 (i := 3) rfl
theorem kc_153_4 : xe_code 153 4 = some (.iload_n 3, []) := kg_153_0 (i := 4) rfl
theorem kc_153_5 : xe_code 153 5 = some (.aload_n 0, []) := kg_153_0 (i := 5) rfl
theorem kc_153_6 : xe_code 153 6 = some (.invokevirtual 47, [139, 0, 621, 3]) := kg_153_0 (i := 6) rfl
theorem kc_153_9 : xe_code 153 9 = some (.if_icmp .ge 25, [34]) := kg_153_0 (i := 7) rfl
theorem kc_153_12 : xe_code 153 12 = some (.aload_n 0, []) := kg_153_0 (i := 8) rfl
theorem kc_153_13 : xe_code 153 13 = some (.iload_n 3, []) := kg_153_0 (i := 9) rfl
theorem kc_153_14 : xe_code 153 14 = some (.invokevirtual 78, [146, 1, 652, 3]) := kg_153_0 (i := 10) rfl
theorem kc_153_17 : xe_code 153 17 = some (.lconst 0, []) := kg_153_0 (i := 11) rfl
theorem kc_153_18 : xe_code 153 18 = some (.lcmp, []) := kg_153_0 (i := 12) rfl
theorem kc_153_19 : xe_code 153 19 = some (.ifCond .ne 9, [28]) := kg_153_0 (i := 13) rfl
theorem kc_153_22 : xe_code 153 22 = some (.lload_n 1, []) := kg_153_0 (i := 14) rfl
theorem kc_153_23 : xe_code 153 23 = some (.lconst 1, []) := kg_153_0 (i := 15) rfl
theorem kc_153_24 : xe_code 153 24 = some (.iload_n 3, []) := kg_153_0 (i := 16) rfl
theorem kc_153_25 : xe_code 153 25 = some (.lshl, []) := kg_153_0 (i := 17) rfl
theorem kc_153_26 : xe_code 153 26 = some (.lor, []) := kg_153_0 (i := 18) rfl
theorem kc_153_27 : xe_code 153 27 = some (.lstore_n 1, []) := kg_153_0 (i := 19) rfl
theorem kc_153_28 : xe_code 153 28 = some (.iinc 3 1, []) := kg_153_0 (i := 20) rfl
theorem kc_153_31 : xe_code 153 31 = some (.goto (-27), [4]) := kg_153_0 (i := 21) rfl
theorem kc_153_34 : xe_code 153 34 = some (.lload_n 1, []) := kg_153_0 (i := 22) rfl
theorem kc_153_35 : xe_code 153 35 = some (.lreturn, []) := kg_153_0 (i := 23) rfl
theorem kc_154_0 : xe_code 154 0 = some (.lload_n 1, []) := kg_154_0 (i := 0) rfl
theorem kc_154_1 : xe_code 154 1 = some (.lstore_n 3, []) := kg_154_0 (i := 1) rfl
theorem kc_154_2 : xe_code 154 2 = some (.iconst 0, []) := kg_154_0 (i := 2) rfl
theorem kc_154_3 : xe_code 154 3 = some (.istore 5, []) := kg_154_0 (i := 3) rfl
theorem kc_154_5 : xe_code 154 5 = some (.iload 5, []) := kg_154_0 (i := 4) rfl
theorem kc_154_7 : xe_code 154 7 = some (.aload_n 0, []) := kg_154_0 (i := 5) rfl
theorem kc_154_8 : xe_code 154 8 = some (.getfield 25, [6, 4, 273]) := kg_154_0 (i := 6) rfl
theorem kc_154_11 : xe_code 154 11 = some (.if_icmp .ge 65, [76]) := kg_154_0 (i := 7) rfl
theorem kc_154_14 : xe_code 154 14 = some (.iload 5, []) := kg_154_0 (i := 8) rfl
theorem kc_154_16 : xe_code 154 16 = some (.bipush 8, []) := kg_154_0 (i := 9) rfl
theorem kc_154_18 : xe_code 154 18 = some (.if_icmp .ge 58, [76]) := kg_154_0 (i := 10) rfl
theorem kc_154_21 : xe_code 154 21 = some (.aload_n 0, []) := kg_154_0 (i := 11) rfl
theorem kc_154_22 : xe_code 154 22 = some (.getfield 22, [6, 3, 271]) := kg_154_0 (i := 12) rfl
theorem kc_154_25 : xe_code 154 25 = some (.iload 5, []) := kg_154_0 (i := 13) rfl
theorem kc_154_27 : xe_code 154 27 = some (.iaload, []) := kg_154_0 (i := 14) rfl
theorem kc_154_28 : xe_code 154 28 = some (.iconst 1, []) := kg_154_0 (i := 15) rfl
theorem kc_154_29 : xe_code 154 29 = some (.if_icmp .ne 16, [45]) := kg_154_0 (i := 16) rfl
theorem kc_154_32 : xe_code 154 32 = some (.lload_n 3, []) := kg_154_0 (i := 17) rfl
theorem kc_154_33 : xe_code 154 33 = some (.aload_n 0, []) := kg_154_0 (i := 18) rfl
theorem kc_154_34 : xe_code 154 34 = some (.getfield 9, [6, 0, 268]) := kg_154_0 (i := 19) rfl
theorem kc_154_37 : xe_code 154 37 = some (.iload 5, []) := kg_154_0 (i := 20) rfl
theorem kc_154_39 : xe_code 154 39 = some (.laload, []) := kg_154_0 (i := 21) rfl
theorem kc_154_40 : xe_code 154 40 = some (.land, []) := kg_154_0 (i := 22) rfl
theorem kc_154_41 : xe_code 154 41 = some (.lstore_n 3, []) := kg_154_0 (i := 23) rfl
theorem kc_154_42 : xe_code 154 42 = some (.goto 28, [70]) := kg_154_0 (i := 24) rfl
theorem kc_154_45 : xe_code 154 45 = some (.aload_n 0, []) := kg_154_0 (i := 25) rfl
theorem kc_154_46 : xe_code 154 46 = some (.getfield 22, [6, 3, 271]) := kg_154_0 (i := 26) rfl
theorem kc_154_49 : xe_code 154 49 = some (.iload 5, []) := kg_154_0 (i := 27) rfl
theorem kc_154_51 : xe_code 154 51 = some (.iaload, []) := kg_154_0 (i := 28) rfl
theorem kc_154_52 : xe_code 154 52 = some (.iconst 2, []) := kg_154_0 (i := 29) rfl
theorem kc_154_53 : xe_code 154 53 = some (.if_icmp .ne 17, [70]) := kg_154_0 (i := 30) rfl
theorem kc_154_56 : xe_code 154 56 = some (.lload_n 3, []) := kg_154_0 (i := 31) rfl
theorem kc_154_57 : xe_code 154 57 = some (.aload_n 0, []) := kg_154_0 (i := 32) rfl
theorem kc_154_58 : xe_code 154 58 = some (.getfield 9, [6, 0, 268]) := kg_154_0 (i := 33) rfl
theorem kc_154_61 : xe_code 154 61 = some (.iload 5, []) := kg_154_0 (i := 34) rfl
theorem kc_154_63 : xe_code 154 63 = some (.laload, []) := kg_154_0 (i := 35) rfl
theorem kc_154_64 : xe_code 154 64 = some (.ldc2_w 29, [18446744073709551615, 695]) := kg_154_0 (i := 36) rfl
theorem kc_154_67 : xe_code 154 67 = some (.lxor, []) := kg_154_0 (i := 37) rfl
theorem kc_154_68 : xe_code 154 68 = some (.land, []) := kg_154_0 (i := 38) rfl
theorem kc_154_69 : xe_code 154 69 = some (.lstore_n 3, []) := kg_154_0 (i := 39) rfl
theorem kc_154_70 : xe_code 154 70 = some (.iinc 5 1, []) := kg_154_0 (i := 40) rfl
theorem kc_154_73 : xe_code 154 73 = some (.goto (-68), [5]) := kg_154_0 (i := 41) rfl
theorem kc_154_76 : xe_code 154 76 = some (.lload_n 3, []) := kg_154_0 (i := 42) rfl
theorem kc_154_77 : xe_code 154 77 = some (.lreturn, []) := kg_154_0 (i := 43) rfl
theorem kc_155_0 : xe_code 155 0 = some (.iload_n 1, []) := kg_155_0 (i := 0) rfl
theorem kc_155_1 : xe_code 155 1 = some (.ifCond .lt 9, [10]) := kg_155_0 (i := 1) rfl
theorem kc_155_4 : xe_code 155 4 = some (.iload_n 1, []) := kg_155_0 (i := 2) rfl
theorem kc_155_5 : xe_code 155 5 = some (.bipush 64, []) := kg_155_0 (i := 3) rfl
theorem kc_155_7 : xe_code 155 7 = some (.if_icmp .lt 10, [17]) := kg_155_0 (i := 4) rfl
theorem kc_155_10 : xe_code 155 10 = some (.aload_n 0, []) := kg_155_0 (i := 5) rfl
theorem kc_155_11 : xe_code 155 11 = some (.bipush (-2), []) := kg_155_0 (i := 6) rfl
theorem kc_155_13 : xe_code 155 13 = some (.invokevirtual 72, [90, 1, 407, 0]) := kg_155_0 (i := 7) rfl
theorem kc_155_16 : xe_code 155 16 = some (.ireturn, []) := kg_155_0 (i := 8) rfl
theorem kc_155_17 : xe_code 155 17 = some (.iload_n 2, []) := kg_155_0 (i := 9) rfl
theorem kc_155_18 : xe_code 155 18 = some (.iconst 1, []) := kg_155_0 (i := 10) rfl
theorem kc_155_19 : xe_code 155 19 = some (.if_icmp .ge 10, [29]) := kg_155_0 (i := 11) rfl
theorem kc_155_22 : xe_code 155 22 = some (.aload_n 0, []) := kg_155_0 (i := 12) rfl
theorem kc_155_23 : xe_code 155 23 = some (.bipush (-4), []) := kg_155_0 (i := 13) rfl
theorem kc_155_25 : xe_code 155 25 = some (.invokevirtual 72, [90, 1, 407, 0]) := kg_155_0 (i := 14) rfl
theorem kc_155_28 : xe_code 155 28 = some (.ireturn, []) := kg_155_0 (i := 15) rfl
theorem kc_155_29 : xe_code 155 29 = some (.iload_n 2, []) := kg_155_0 (i := 16) rfl
theorem kc_155_30 : xe_code 155 30 = some (.sipush 999, []) := kg_155_0 (i := 17) rfl
theorem kc_155_33 : xe_code 155 33 = some (.if_icmp .gt 15, [48]) := kg_155_0 (i := 18) rfl
theorem kc_155_36 : xe_code 155 36 = some (.aload_n 0, []) := kg_155_0 (i := 19) rfl
theorem kc_155_37 : xe_code 155 37 = some (.getfield 35, [0, 3, 372]) := kg_155_0 (i := 20) rfl
theorem kc_155_40 : xe_code 155 40 = some (.getfield 227, [6, 4, 274]) := kg_155_0 (i := 21) rfl
theorem kc_155_43 : xe_code 155 43 = some (.bipush 8, []) := kg_155_0 (i := 22) rfl
theorem kc_155_45 : xe_code 155 45 = some (.if_icmp .lt 10, [55]) := kg_155_0 (i := 23) rfl
theorem kc_155_48 : xe_code 155 48 = some (.aload_n 0, []) := kg_155_0 (i := 24) rfl
theorem kc_155_49 : xe_code 155 49 = some (.bipush (-6), []) := kg_155_0 (i := 25) rfl
theorem kc_155_51 : xe_code 155 51 = some (.invokevirtual 72, [90, 1, 407, 0]) := kg_155_0 (i := 26) rfl
theorem kc_155_54 : xe_code 155 54 = some (.ireturn, []) := kg_155_0 (i := 27) rfl
theorem kc_155_55 : xe_code 155 55 = some (.aload_n 0, []) := kg_155_0 (i := 28) rfl
theorem kc_155_56 : xe_code 155 56 = some (.getfield 35, [0, 3, 372]) := kg_155_0 (i := 29) rfl
theorem kc_155_59 : xe_code 155 59 = some (.iload_n 1, []) := kg_155_0 (i := 30) rfl
theorem kc_155_60 : xe_code 155 60 = some (.iload_n 2, []) := kg_155_0 (i := 31) rfl
theorem kc_155_61 : xe_code 155 61 = some (.invokevirtual 228, [156, 2, 706, 6]) := kg_155_0 (i := 32) rfl
theorem kc_155_64 : xe_code 155 64 = some (.ireturn, []) := kg_155_0 (i := 33) rfl
theorem kc_156_0 : xe_code 156 0 = some (.aload_n 0, []) := kg_156_0 (i := 0) rfl
theorem kc_156_1 : xe_code 156 1 = some (.getfield 25, [6, 4, 273]) := kg_156_0 (i := 1) rfl
theorem kc_156_4 : xe_code 156 4 = some (.bipush 8, []) := kg_156_0 (i := 2) rfl
theorem kc_156_6 : xe_code 156 6 = some (.if_icmp .lt 6, [12]) := kg_156_0 (i := 3) rfl
theorem kc_156_9 : xe_code 156 9 = some (.bipush (-9), []) := kg_156_0 (i := 4) rfl
theorem kc_156_11 : xe_code 156 11 = some (.ireturn, []) := kg_156_0 (i := 5) rfl
theorem kc_156_12 : xe_code 156 12 = some (.lconst 0, []) := kg_156_0 (i := 6) rfl
theorem kc_156_13 : xe_code 156 13 = some (.lstore_n 3, []) := kg_156_0 (i := 7) rfl
theorem kc_156_14 : xe_code 156 14 = some (.iconst 0, []) := kg_156_0 (i := 8) rfl
theorem kc_156_15 : xe_code 156 15 = some (.istore 5, []) := kg_156_0 (i := 9) rfl
theorem kc_156_17 : xe_code 156 17 = some (.iload 5, []) := kg_156_0 (i := 10) rfl
theorem kc_156_19 : xe_code 156 19 = some (.bipush 64, []) := kg_156_0 (i := 11) rfl
theorem kc_156_21 : xe_code 156 21 = some (.if_icmp .ge 23, [44]) := kg_156_0 (i := 12) rfl
theorem kc_156_24 : xe_code 156 24 = some (.iload 5, []) := kg_156_0 (i := 13) rfl
theorem kc_156_26 : xe_code 156 26 = some (.iload_n 1, []) := kg_156_0 (i := 14) rfl
theorem kc_156_27 : xe_code 156 27 = some (.iand, []) := kg_156_0 (i := 15) rfl
theorem kc_156_28 : xe_code 156 28 = some (.ifCond .eq 10, [38]) := kg_156_0 (i := 16) rfl
theorem kc_156_31 : xe_code 156 31 = some (.lload_n 3, []) := kg_156_0 (i := 17) rfl
theorem kc_156_32 : xe_code 156 32 = some (.lconst 1, []) := kg_156_0 (i := 18) rfl
theorem kc_156_33 : xe_code 156 33 = some (.iload 5, []) := kg_156_0 (i := 19) rfl
theorem kc_156_35 : xe_code 156 35 = some (.lshl, []) := kg_156_0 (i := 20) rfl
theorem kc_156_36 : xe_code 156 36 = some (.lor, []) := kg_156_0 (i := 21) rfl
theorem kc_156_37 : xe_code 156 37 = some (.lstore_n 3, []) := kg_156_0 (i := 22) rfl
theorem kc_156_38 : xe_code 156 38 = some (.iinc 5 1, []) := kg_156_0 (i := 23) rfl
theorem kc_156_41 : xe_code 156 41 = some (.goto (-24), [17]) := kg_156_0 (i := 24) rfl
theorem kc_156_44 : xe_code 156 44 = some (.aload_n 0, []) := kg_156_0 (i := 25) rfl
theorem kc_156_45 : xe_code 156 45 = some (.getfield 9, [6, 0, 268]) := kg_156_0 (i := 26) rfl
theorem kc_156_48 : xe_code 156 48 = some (.aload_n 0, []) := kg_156_0 (i := 27) rfl
theorem kc_156_49 : xe_code 156 49 = some (.getfield 25, [6, 4, 273]) := kg_156_0 (i := 28) rfl
theorem kc_156_52 : xe_code 156 52 = some (.lload_n 3, []) := kg_156_0 (i := 29) rfl
theorem kc_156_53 : xe_code 156 53 = some (.lastore, []) := kg_156_0 (i := 30) rfl
theorem kc_156_54 : xe_code 156 54 = some (.aload_n 0, []) := kg_156_0 (i := 31) rfl
theorem kc_156_55 : xe_code 156 55 = some (.getfield 15, [6, 1, 269]) := kg_156_0 (i := 32) rfl
theorem kc_156_58 : xe_code 156 58 = some (.aload_n 0, []) := kg_156_0 (i := 33) rfl
theorem kc_156_59 : xe_code 156 59 = some (.getfield 25, [6, 4, 273]) := kg_156_0 (i := 34) rfl
theorem kc_156_62 : xe_code 156 62 = some (.iload_n 2, []) := kg_156_0 (i := 35) rfl
theorem kc_156_63 : xe_code 156 63 = some (.iastore, []) := kg_156_0 (i := 36) rfl
theorem kc_156_64 : xe_code 156 64 = some (.aload_n 0, []) := kg_156_0 (i := 37) rfl
theorem kc_156_65 : xe_code 156 65 = some (.dup, []) := kg_156_0 (i := 38) rfl
theorem kc_156_66 : xe_code 156 66 = some (.getfield 25, [6, 4, 273]) := kg_156_0 (i := 39) rfl
theorem kc_156_69 : xe_code 156 69 = some (.iconst 1, []) := kg_156_0 (i := 40) rfl
theorem kc_156_70 : xe_code 156 70 = some (.iadd, []) := kg_156_0 (i := 41) rfl
theorem kc_156_71 : xe_code 156 71 = some (.putfield 25, [6, 4, 273]) := kg_156_0 (i := 42) rfl
theorem kc_156_74 : xe_code 156 74 = some (.aload_n 0, []) := kg_156_0 (i := 43) rfl
theorem kc_156_75 : xe_code 156 75 = some (.getfield 25, [6, 4, 273]) := kg_156_0 (i := 44) rfl
theorem kc_156_78 : xe_code 156 78 = some (.iconst 1, []) := kg_156_0 (i := 45) rfl
theorem kc_156_79 : xe_code 156 79 = some (.isub, []) := kg_156_0 (i := 46) rfl
theorem kc_156_80 : xe_code 156 80 = some (.ireturn, []) := kg_156_0 (i := 47) rfl
theorem kc_157_0 : xe_code 157 0 = some (.iload_n 1, []) := kg_157_0 (i := 0) rfl
theorem kc_157_1 : xe_code 157 1 = some (.ifCond .lt 20, [21]) := kg_157_0 (i := 1) rfl
theorem kc_157_4 : xe_code 157 4 = some (.iload_n 1, []) := kg_157_0 (i := 2) rfl
theorem kc_157_5 : xe_code 157 5 = some (.aload_n 0, []) := kg_157_0 (i := 3) rfl
theorem kc_157_6 : xe_code 157 6 = some (.getfield 35, [0, 3, 372]) := kg_157_0 (i := 4) rfl
theorem kc_157_9 : xe_code 157 9 = some (.getfield 227, [6, 4, 274]) := kg_157_0 (i := 5) rfl
theorem kc_157_12 : xe_code 157 12 = some (.if_icmp .ge 9, [21]) := kg_157_0 (i := 6) rfl
theorem kc_157_15 : xe_code 157 15 = some (.iload_n 1, []) := kg_157_0 (i := 7) rfl
theorem kc_157_16 : xe_code 157 16 = some (.bipush 8, []) := kg_157_0 (i := 8) rfl
theorem kc_157_18 : xe_code 157 18 = some (.if_icmp .lt 9, [27]) := kg_157_0 (i := 9) rfl
theorem kc_157_21 : xe_code 157 21 = some (.aload_n 0, []) := kg_157_0 (i := 10) rfl
theorem kc_157_22 : xe_code 157 22 = some (.iconst (-1), []) := kg_157_0 (i := 11) rfl
theorem kc_157_23 : xe_code 157 23 = some (.invokevirtual 72, [90, 1, 407, 0]) := kg_157_0 (i := 12) rfl
theorem kc_157_26 : xe_code 157 26 = some (.ireturn, []) := kg_157_0 (i := 13) rfl
theorem kc_157_27 : xe_code 157 27 = some (.aload_n 0, []) := kg_157_0 (i := 14) rfl
theorem kc_157_28 : xe_code 157 28 = some (.getfield 35, [0, 3, 372]) := kg_157_0 (i := 15) rfl
theorem kc_157_31 : xe_code 157 31 = some (.getfield 230, [6, 3, 272]) := kg_157_0 (i := 16) rfl
theorem kc_157_34 : xe_code 157 34 = some (.iload_n 1, []) := kg_157_0 (i := 17) rfl
theorem kc_157_35 : xe_code 157 35 = some (.iaload, []) := kg_157_0 (i := 18) rfl
theorem kc_157_36 : xe_code 157 36 = some (.ifCond .eq 10, [46]) := kg_157_0 (i := 19) rfl
theorem kc_157_39 : xe_code 157 39 = some (.aload_n 0, []) := kg_157_0 (i := 20) rfl
theorem kc_157_40 : xe_code 157 40 = some (.bipush (-3), []) := kg_157_0 (i := 21) rfl
theorem kc_157_42 : xe_code 157 42 = some (.invokevirtual 72, [90, 1, 407, 0]) := kg_157_0 (i := 22) rfl
theorem kc_157_45 : xe_code 157 45 = some (.ireturn, []) := kg_157_0 (i := 23) rfl
theorem kc_157_46 : xe_code 157 46 = some (.aload_n 0, []) := kg_157_0 (i := 24) rfl
theorem kc_157_47 : xe_code 157 47 = some (.getfield 35, [0, 3, 372]) := kg_157_0 (i := 25) rfl
theorem kc_157_50 : xe_code 157 50 = some (.getfield 230, [6, 3, 272]) := kg_157_0 (i := 26) rfl
theorem kc_157_53 : xe_code 157 53 = some (.iload_n 1, []) := kg_157_0 (i := 27) rfl
theorem kc_157_54 : xe_code 157 54 = some (.iload_n 2, []) := kg_157_0 (i := 28) rfl
theorem kc_157_55 : xe_code 157 55 = some (.ifCond .eq 7, [62]) := kg_157_0 (i := 29) rfl
theorem kc_157_58 : xe_code 157 58 = some (.iconst 1, []) := kg_157_0 (i := 30) rfl
theorem kc_157_59 : xe_code 157 59 = some (.goto 4, [63]) := kg_157_0 (i := 31) rfl
theorem kc_157_62 : xe_code 157 62 = some (.iconst 2, []) := kg_157_0 (i := 32) rfl
theorem kc_157_63 : xe_code 157 63 = some (.iastore, []) := kg_157_0 (i := 33) rfl
theorem kc_157_64 : xe_code 157 64 = some (.aload_n 0, []) := kg_157_0 (i := 34) rfl
theorem kc_157_65 : xe_code 157 65 = some (.invokevirtual 217, [152, 0, 683, 0]) := kg_157_0 (i := 35) rfl
theorem kc_157_68 : xe_code 157 68 = some (.invokestatic 221, [5, 1, 696, 0]) := kg_157_0 (i := 36) rfl
theorem kc_157_71 : xe_code 157 71 = some (.ireturn, []) := kg_157_0 (i := 37) rfl
theorem kc_158_0 : xe_code 158 0 = some (.aload_n 0, []) := kg_158_0 (i := 0) rfl
theorem kc_158_1 : xe_code 158 1 = some (.getfield 35, [0, 3, 372]) := kg_158_0 (i := 1) rfl
theorem kc_158_4 : xe_code 158 4 = some (.aload_n 0, []) := kg_158_0 (i := 2) rfl
theorem kc_158_5 : xe_code 158 5 = some (.invokevirtual 217, [152, 0, 683, 0]) := kg_158_0 (i := 3) rfl
theorem kc_158_8 : xe_code 158 8 = some (.invokevirtual 233, [159, 1, 718, 6]) := kg_158_0 (i := 4) rfl
theorem kc_158_11 : xe_code 158 11 = some (.ireturn, []) := kg_158_0 (i := 5) rfl
theorem kc_159_0 : xe_code 159 0 = some (.bipush (-9), []) := kg_159_0 (i := 0) rfl
theorem kc_159_2 : xe_code 159 2 = some (.istore_n 3, []) := kg_159_0 (i := 1) rfl
theorem kc_159_3 : xe_code 159 3 = some (.iconst 0, []) := kg_159_0 (i := 2) rfl
theorem kc_159_4 : xe_code 159 4 = some (.istore 4, []) := kg_159_0 (i := 3) rfl
theorem kc_159_6 : xe_code 159 6 = some (.iconst 0, []) := kg_159_0 (i := 4) rfl
theorem kc_159_7 : xe_code 159 7 = some (.istore 5, []) := kg_159_0 (i := 5) rfl
theorem kc_159_9 : xe_code 159 9 = some (.iload 5, []) := kg_159_0 (i := 6) rfl
theorem kc_159_11 : xe_code 159 11 = some (.aload_n 0, []) := kg_159_0 (i := 7) rfl
theorem kc_159_12 : xe_code 159 12 = some (.getfield 25, [6, 4, 273]) := kg_159_0 (i := 8) rfl
theorem kc_159_15 : xe_code 159 15 = some (.if_icmp .ge 101, [116]) := kg_159_0 (i := 9) rfl
theorem kc_159_18 : xe_code 159 18 = some (.iload 5, []) := kg_159_0 (i := 10) rfl
theorem kc_159_20 : xe_code 159 20 = some (.bipush 8, []) := kg_159_0 (i := 11) rfl
theorem kc_159_22 : xe_code 159 22 = some (.if_icmp .ge 94, [116]) := kg_159_0 (i := 12) rfl
theorem kc_159_25 : xe_code 159 25 = some (.lload_n 1, []) := kg_159_0 (i := 13) rfl
theorem kc_159_26 : xe_code 159 26 = some (.lconst 0, []) := kg_159_0 (i := 14) rfl
theorem kc_159_27 : xe_code 159 27 = some (.lcmp, []) := kg_159_0 (i := 15) rfl
theorem kc_159_28 : xe_code 159 28 = some (.ifCond .eq 88, [116]) := kg_159_0 (i := 16) rfl
theorem kc_159_31 : xe_code 159 31 = some (.lload_n 1, []) := kg_159_0 (i := 17) rfl
theorem kc_159_32 : xe_code 159 32 = some (.aload_n 0, []) := kg_159_0 (i := 18) rfl
theorem kc_159_33 : xe_code 159 33 = some (.getfield 9, [6, 0, 268]) := kg_159_0 (i := 19) rfl
theorem kc_159_36 : xe_code 159 36 = some (.iload 5, []) := kg_159_0 (i := 20) rfl
theorem kc_159_38 : xe_code 159 38 = some (.laload, []) := kg_159_0 (i := 21) rfl
theorem kc_159_39 : xe_code 159 39 = some (.land, []) := kg_159_0 (i := 22) rfl
theorem kc_159_40 : xe_code 159 40 = some (.invokestatic 31, [5, 1, 722, 0]) := kg_159_0 (i := 23) rfl
theorem kc_159_43 : xe_code 159 43 = some (.istore 6, []) := kg_159_0 (i := 24) rfl
theorem kc_159_45 : xe_code 159 45 = some (.lload_n 1, []) := kg_159_0 (i := 25) rfl
theorem kc_159_46 : xe_code 159 46 = some (.aload_n 0, []) := kg_159_0 (i := 26) rfl
theorem kc_159_47 : xe_code 159 47 = some (.getfield 9, [6, 0, 268]) := kg_159_0 (i := 27) rfl
theorem kc_159_50 : xe_code 159 50 = some (.iload 5, []) := kg_159_0 (i := 28) rfl
theorem kc_159_52 : xe_code 159 52 = some (.laload, []) := kg_159_0 (i := 29) rfl
theorem kc_159_53 : xe_code 159 53 = some (.ldc2_w 29, [18446744073709551615, 695]) := kg_159_0 (i := 30) rfl
theorem kc_159_56 : xe_code 159 56 = some (.lxor, []) := kg_159_0 (i := 31) rfl
theorem kc_159_57 : xe_code 159 57 = some (.land, []) := kg_159_0 (i := 32) rfl
theorem kc_159_58 : xe_code 159 58 = some (.invokestatic 31, [5, 1, 722, 0]) := kg_159_0 (i := 33) rfl
theorem kc_159_61 : xe_code 159 61 = some (.istore 7, []) := kg_159_0 (i := 34) rfl
theorem kc_159_63 : xe_code 159 63 = some (.aload_n 0, []) := kg_159_0 (i := 35) rfl
theorem kc_159_64 : xe_code 159 64 = some (.getfield 15, [6, 1, 269]) := kg_159_0 (i := 36) rfl
theorem kc_159_67 : xe_code 159 67 = some (.iload 5, []) := kg_159_0 (i := 37) rfl
theorem kc_159_69 : xe_code 159 69 = some (.iaload, []) := kg_159_0 (i := 38) rfl
theorem kc_159_70 : xe_code 159 70 = some (.iload 6, []) := kg_159_0 (i := 39) rfl
theorem kc_159_72 : xe_code 159 72 = some (.iload 7, []) := kg_159_0 (i := 40) rfl
theorem kc_159_74 : xe_code 159 74 = some (.invokestatic 37, [6, 2, 723, 0]) := kg_159_0 (i := 41) rfl
theorem kc_159_77 : xe_code 159 77 = some (.imul, []) := kg_159_0 (i := 42) rfl
theorem kc_159_78 : xe_code 159 78 = some (.istore 8, []) := kg_159_0 (i := 43) rfl
theorem kc_159_80 : xe_code 159 80 = some (.aload_n 0, []) := kg_159_0 (i := 44) rfl
theorem kc_159_81 : xe_code 159 81 = some (.getfield 22, [6, 3, 271]) := kg_159_0 (i := 45) rfl
theorem kc_159_84 : xe_code 159 84 = some (.iload 5, []) := kg_159_0 (i := 46) rfl
theorem kc_159_86 : xe_code 159 86 = some (.iaload, []) := kg_159_0 (i := 47) rfl
theorem kc_159_87 : xe_code 159 87 = some (.ifCond .ne 23, [110]) := kg_159_1 (i := 0) rfl
theorem kc_159_90 : xe_code 159 90 = some (.iload_n 3, []) := kg_159_1 (i := 1) rfl
theorem kc_159_91 : xe_code 159 91 = some (.bipush (-9), []) := kg_159_1 (i := 2) rfl
theorem kc_159_93 : xe_code 159 93 = some (.if_icmp .eq 10, [103]) := kg_159_1 (i := 3) rfl
theorem kc_159_96 : xe_code 159 96 = some (.iload 8, []) := kg_159_1 (i := 4) rfl
theorem kc_159_98 : xe_code 159 98 = some (.iload 4, []) := kg_159_1 (i := 5) rfl
theorem kc_159_100 : xe_code 159 100 = some (.if_icmp .ge 10, [110]) := kg_159_1 (i := 6) rfl
theorem kc_159_103 : xe_code 159 103 = some (.iload 5, []) := kg_159_1 (i := 7) rfl
theorem kc_159_105 : xe_code 159 105 = some (.istore_n 3, []) := kg_159_1 (i := 8) rfl
theorem kc_159_106 : xe_code 159 106 = some (.iload 8, []) := kg_159_1 (i := 9) rfl
theorem kc_159_108 : xe_code 159 108 = some (.istore 4, []) := kg_159_1 (i := 10) rfl
theorem kc_159_110 : xe_code 159 110 = some (.iinc 5 1, []) := kg_159_1 (i := 11) rfl
theorem kc_159_113 : xe_code 159 113 = some (.goto (-104), [9]) := kg_159_1 (i := 12) rfl
theorem kc_159_116 : xe_code 159 116 = some (.iload_n 3, []) := kg_159_1 (i := 13) rfl
theorem kc_159_117 : xe_code 159 117 = some (.ireturn, []) := kg_159_1 (i := 14) rfl
theorem kc_160_0 : xe_code 160 0 = some (.aload_n 0, []) := kg_160_0 (i := 0) rfl
theorem kc_160_1 : xe_code 160 1 = some (.getfield 35, [0, 3, 372]) := kg_160_0 (i := 1) rfl
theorem kc_160_4 : xe_code 160 4 = some (.aload_n 0, []) := kg_160_0 (i := 2) rfl
theorem kc_160_5 : xe_code 160 5 = some (.invokevirtual 217, [152, 0, 683, 0]) := kg_160_0 (i := 3) rfl
theorem kc_160_8 : xe_code 160 8 = some (.invokevirtual 236, [161, 1, 730, 6]) := kg_160_0 (i := 4) rfl
theorem kc_160_11 : xe_code 160 11 = some (.ireturn, []) := kg_160_0 (i := 5) rfl
theorem kc_161_0 : xe_code 161 0 = some (.aload_n 0, []) := kg_161_0 (i := 0) rfl
theorem kc_161_1 : xe_code 161 1 = some (.getfield 19, [6, 2, 270]) := kg_161_0 (i := 1) rfl
theorem kc_161_4 : xe_code 161 4 = some (.bipush (-9), []) := kg_161_0 (i := 2) rfl
theorem kc_161_6 : xe_code 161 6 = some (.invokestatic 43, [1, 2, 734, 0]) := kg_161_0 (i := 3) rfl
theorem kc_161_9 : xe_code 161 9 = some (.aload_n 0, []) := kg_161_0 (i := 4) rfl
theorem kc_161_10 : xe_code 161 10 = some (.lload_n 1, []) := kg_161_0 (i := 5) rfl
theorem kc_161_11 : xe_code 161 11 = some (.iconst 0, []) := kg_161_0 (i := 6) rfl
theorem kc_161_12 : xe_code 161 12 = some (.iconst 0, []) := kg_161_0 (i := 7) rfl
theorem kc_161_13 : xe_code 161 13 = some (.invokevirtual 49, [162, 3, 735, 6]) := kg_161_0 (i := 8) rfl
theorem kc_161_16 : xe_code 161 16 = some (.ireturn, []) := kg_161_0 (i := 9) rfl
theorem kc_162_0 : xe_code 162 0 = some (.lload_n 1, []) := kg_162_0 (i := 0) rfl
theorem kc_162_1 : xe_code 162 1 = some (.invokestatic 31, [5, 1, 722, 0]) := kg_162_0 (i := 1) rfl
theorem kc_162_4 : xe_code 162 4 = some (.iconst 1, []) := kg_162_0 (i := 2) rfl
theorem kc_162_5 : xe_code 162 5 = some (.if_icmp .le 21, [26]) := kg_162_0 (i := 3) rfl
theorem kc_162_8 : xe_code 162 8 = some (.iload_n 3, []) := kg_162_0 (i := 4) rfl
theorem kc_162_9 : xe_code 162 9 = some (.ifCond .lt 17, [26]) := kg_162_0 (i := 5) rfl
theorem kc_162_12 : xe_code 162 12 = some (.iload_n 3, []) := kg_162_0 (i := 6) rfl
theorem kc_162_13 : xe_code 162 13 = some (.sipush 6561, []) := kg_162_0 (i := 7) rfl
theorem kc_162_16 : xe_code 162 16 = some (.if_icmp .ge 10, [26]) := kg_162_0 (i := 8) rfl
theorem kc_162_19 : xe_code 162 19 = some (.iload 4, []) := kg_162_0 (i := 9) rfl
theorem kc_162_21 : xe_code 162 21 = some (.bipush 8, []) := kg_162_0 (i := 10) rfl
theorem kc_162_23 : xe_code 162 23 = some (.if_icmp .le 5, [28]) := kg_162_0 (i := 11) rfl
theorem kc_162_26 : xe_code 162 26 = some (.iconst 0, []) := kg_162_0 (i := 12) rfl
theorem kc_162_27 : xe_code 162 27 = some (.ireturn, []) := kg_162_0 (i := 13) rfl
theorem kc_162_28 : xe_code 162 28 = some (.aload_n 0, []) := kg_162_0 (i := 14) rfl
theorem kc_162_29 : xe_code 162 29 = some (.getfield 19, [6, 2, 270]) := kg_162_0 (i := 15) rfl
theorem kc_162_32 : xe_code 162 32 = some (.iload_n 3, []) := kg_162_0 (i := 16) rfl
theorem kc_162_33 : xe_code 162 33 = some (.iaload, []) := kg_162_0 (i := 17) rfl
theorem kc_162_34 : xe_code 162 34 = some (.bipush (-9), []) := kg_162_0 (i := 18) rfl
theorem kc_162_36 : xe_code 162 36 = some (.if_icmp .eq 10, [46]) := kg_162_0 (i := 19) rfl
theorem kc_162_39 : xe_code 162 39 = some (.aload_n 0, []) := kg_162_0 (i := 20) rfl
theorem kc_162_40 : xe_code 162 40 = some (.getfield 19, [6, 2, 270]) := kg_162_0 (i := 21) rfl
theorem kc_162_43 : xe_code 162 43 = some (.iload_n 3, []) := kg_162_0 (i := 22) rfl
theorem kc_162_44 : xe_code 162 44 = some (.iaload, []) := kg_162_0 (i := 23) rfl
theorem kc_162_45 : xe_code 162 45 = some (.ireturn, []) := kg_162_0 (i := 24) rfl
theorem kc_162_46 : xe_code 162 46 = some (.bipush (-9), []) := kg_162_0 (i := 25) rfl
theorem kc_162_48 : xe_code 162 48 = some (.istore 5, []) := kg_162_0 (i := 26) rfl
theorem kc_162_50 : xe_code 162 50 = some (.iconst 1, []) := kg_162_0 (i := 27) rfl
theorem kc_162_51 : xe_code 162 51 = some (.istore 6, []) := kg_162_0 (i := 28) rfl
theorem kc_162_53 : xe_code 162 53 = some (.iconst 0, []) := kg_162_0 (i := 29) rfl
theorem kc_162_54 : xe_code 162 54 = some (.istore 7, []) := kg_162_0 (i := 30) rfl
theorem kc_162_56 : xe_code 162 56 = some (.iload 7, []) := kg_162_0 (i := 31) rfl
theorem kc_162_58 : xe_code 162 58 = some (.aload_n 0, []) := kg_162_0 (i := 32) rfl
theorem kc_162_59 : xe_code 162 59 = some (.getfield 25, [6, 4, 273]) := kg_162_0 (i := 33) rfl
theorem kc_162_62 : xe_code 162 62 = some (.if_icmp .ge 134, [196]) := kg_162_0 (i := 34) rfl
theorem kc_162_65 : xe_code 162 65 = some (.iload 7, []) := kg_162_0 (i := 35) rfl
theorem kc_162_67 : xe_code 162 67 = some (.bipush 8, []) := kg_162_0 (i := 36) rfl
theorem kc_162_69 : xe_code 162 69 = some (.if_icmp .ge 127, [196]) := kg_162_0 (i := 37) rfl
theorem kc_162_72 : xe_code 162 72 = some (.lload_n 1, []) := kg_162_0 (i := 38) rfl
theorem kc_162_73 : xe_code 162 73 = some (.aload_n 0, []) := kg_162_0 (i := 39) rfl
theorem kc_162_74 : xe_code 162 74 = some (.getfield 9, [6, 0, 268]) := kg_162_0 (i := 40) rfl
theorem kc_162_77 : xe_code 162 77 = some (.iload 7, []) := kg_162_0 (i := 41) rfl
theorem kc_162_79 : xe_code 162 79 = some (.laload, []) := kg_162_0 (i := 42) rfl
theorem kc_162_80 : xe_code 162 80 = some (.land, []) := kg_162_0 (i := 43) rfl
theorem kc_162_81 : xe_code 162 81 = some (.lstore 8, []) := kg_162_0 (i := 44) rfl
theorem kc_162_83 : xe_code 162 83 = some (.lload_n 1, []) := kg_162_0 (i := 45) rfl
theorem kc_162_84 : xe_code 162 84 = some (.aload_n 0, []) := kg_162_0 (i := 46) rfl
theorem kc_162_85 : xe_code 162 85 = some (.getfield 9, [6, 0, 268]) := kg_162_0 (i := 47) rfl
theorem kc_162_88 : xe_code 162 88 = some (.iload 7, []) := kg_162_1 (i := 0) rfl
theorem kc_162_90 : xe_code 162 90 = some (.laload, []) := kg_162_1 (i := 1) rfl
theorem kc_162_91 : xe_code 162 91 = some (.ldc2_w 29, [18446744073709551615, 695]) := kg_162_1 (i := 2) rfl
theorem kc_162_94 : xe_code 162 94 = some (.lxor, []) := kg_162_1 (i := 3) rfl
theorem kc_162_95 : xe_code 162 95 = some (.land, []) := kg_162_1 (i := 4) rfl
theorem kc_162_96 : xe_code 162 96 = some (.lstore 10, []) := kg_162_1 (i := 5) rfl
theorem kc_162_98 : xe_code 162 98 = some (.lload 8, []) := kg_162_1 (i := 6) rfl
theorem kc_162_100 : xe_code 162 100 = some (.lconst 0, []) := kg_162_1 (i := 7) rfl
theorem kc_162_101 : xe_code 162 101 = some (.lcmp, []) := kg_162_1 (i := 8) rfl
theorem kc_162_102 : xe_code 162 102 = some (.ifCond .eq 82, [184]) := kg_162_1 (i := 9) rfl
theorem kc_162_105 : xe_code 162 105 = some (.lload 10, []) := kg_162_1 (i := 10) rfl
theorem kc_162_107 : xe_code 162 107 = some (.lconst 0, []) := kg_162_1 (i := 11) rfl
theorem kc_162_108 : xe_code 162 108 = some (.lcmp, []) := kg_162_1 (i := 12) rfl
theorem kc_162_109 : xe_code 162 109 = some (.ifCond .eq 75, [184]) := kg_162_1 (i := 13) rfl
theorem kc_162_112 : xe_code 162 112 = some (.aload_n 0, []) := kg_162_1 (i := 14) rfl
theorem kc_162_113 : xe_code 162 113 = some (.lload 8, []) := kg_162_1 (i := 15) rfl
theorem kc_162_115 : xe_code 162 115 = some (.iload_n 3, []) := kg_162_1 (i := 16) rfl
theorem kc_162_116 : xe_code 162 116 = some (.iload 6, []) := kg_162_1 (i := 17) rfl
theorem kc_162_118 : xe_code 162 118 = some (.iadd, []) := kg_162_1 (i := 18) rfl
theorem kc_162_119 : xe_code 162 119 = some (.iload 4, []) := kg_162_1 (i := 19) rfl
theorem kc_162_121 : xe_code 162 121 = some (.iconst 1, []) := kg_162_1 (i := 20) rfl
theorem kc_162_122 : xe_code 162 122 = some (.iadd, []) := kg_162_1 (i := 21) rfl
theorem kc_162_123 : xe_code 162 123 = some (.invokevirtual 49, [162, 3, 735, 6]) := kg_162_1 (i := 22) rfl
theorem kc_162_126 : xe_code 162 126 = some (.aload_n 0, []) := kg_162_1 (i := 23) rfl
theorem kc_162_127 : xe_code 162 127 = some (.lload 10, []) := kg_162_1 (i := 24) rfl
theorem kc_162_129 : xe_code 162 129 = some (.iload_n 3, []) := kg_162_1 (i := 25) rfl
theorem kc_162_130 : xe_code 162 130 = some (.iconst 2, []) := kg_162_1 (i := 26) rfl
theorem kc_162_131 : xe_code 162 131 = some (.iload 6, []) := kg_162_1 (i := 27) rfl
theorem kc_162_133 : xe_code 162 133 = some (.imul, []) := kg_162_1 (i := 28) rfl
theorem kc_162_134 : xe_code 162 134 = some (.iadd, []) := kg_162_1 (i := 29) rfl
theorem kc_162_135 : xe_code 162 135 = some (.iload 4, []) := kg_162_1 (i := 30) rfl
theorem kc_162_137 : xe_code 162 137 = some (.iconst 1, []) := kg_162_1 (i := 31) rfl
theorem kc_162_138 : xe_code 162 138 = some (.iadd, []) := kg_162_1 (i := 32) rfl
theorem kc_162_139 : xe_code 162 139 = some (.invokevirtual 49, [162, 3, 735, 6]) := kg_162_1 (i := 33) rfl
theorem kc_162_142 : xe_code 162 142 = some (.invokestatic 37, [6, 2, 723, 0]) := kg_162_1 (i := 34) rfl
theorem kc_162_145 : xe_code 162 145 = some (.istore 12, []) := kg_162_1 (i := 35) rfl
theorem kc_162_147 : xe_code 162 147 = some (.iload 5, []) := kg_162_1 (i := 36) rfl
theorem kc_162_149 : xe_code 162 149 = some (.bipush (-9), []) := kg_162_1 (i := 37) rfl
theorem kc_162_151 : xe_code 162 151 = some (.if_icmp .ne 16, [167]) := kg_162_1 (i := 38) rfl
theorem kc_162_154 : xe_code 162 154 = some (.aload_n 0, []) := kg_162_1 (i := 39) rfl
theorem kc_162_155 : xe_code 162 155 = some (.getfield 15, [6, 1, 269]) := kg_162_1 (i := 40) rfl
theorem kc_162_158 : xe_code 162 158 = some (.iload 7, []) := kg_162_1 (i := 41) rfl
theorem kc_162_160 : xe_code 162 160 = some (.iaload, []) := kg_162_1 (i := 42) rfl
theorem kc_162_161 : xe_code 162 161 = some (.iload 12, []) := kg_162_1 (i := 43) rfl
theorem kc_162_163 : xe_code 162 163 = some (.iadd, []) := kg_162_1 (i := 44) rfl
theorem kc_162_164 : xe_code 162 164 = some (.goto 18, [182]) := kg_162_1 (i := 45) rfl
theorem kc_162_167 : xe_code 162 167 = some (.iload 5, []) := kg_162_1 (i := 46) rfl
theorem kc_162_169 : xe_code 162 169 = some (.aload_n 0, []) := kg_162_1 (i := 47) rfl
theorem kc_162_170 : xe_code 162 170 = some (.getfield 15, [6, 1, 269]) := kg_162_2 (i := 0) rfl
theorem kc_162_173 : xe_code 162 173 = some (.iload 7, []) := kg_162_2 (i := 1) rfl
theorem kc_162_175 : xe_code 162 175 = some (.iaload, []) := kg_162_2 (i := 2) rfl
theorem kc_162_176 : xe_code 162 176 = some (.iload 12, []) := kg_162_2 (i := 3) rfl
theorem kc_162_178 : xe_code 162 178 = some (.iadd, []) := kg_162_2 (i := 4) rfl
theorem kc_162_179 : xe_code 162 179 = some (.invokestatic 53, [7, 2, 739, 0]) := kg_162_2 (i := 5) rfl
theorem kc_162_182 : xe_code 162 182 = some (.istore 5, []) := kg_162_2 (i := 6) rfl
theorem kc_162_184 : xe_code 162 184 = some (.iload 6, []) := kg_162_2 (i := 7) rfl
theorem kc_162_186 : xe_code 162 186 = some (.iconst 3, []) := kg_162_2 (i := 8) rfl
theorem kc_162_187 : xe_code 162 187 = some (.imul, []) := kg_162_2 (i := 9) rfl
theorem kc_162_188 : xe_code 162 188 = some (.istore 6, []) := kg_162_2 (i := 10) rfl
theorem kc_162_190 : xe_code 162 190 = some (.iinc 7 1, []) := kg_162_2 (i := 11) rfl
theorem kc_162_193 : xe_code 162 193 = some (.goto (-137), [56]) := kg_162_2 (i := 12) rfl
theorem kc_162_196 : xe_code 162 196 = some (.aload_n 0, []) := kg_162_2 (i := 13) rfl
theorem kc_162_197 : xe_code 162 197 = some (.getfield 19, [6, 2, 270]) := kg_162_2 (i := 14) rfl
theorem kc_162_200 : xe_code 162 200 = some (.iload_n 3, []) := kg_162_2 (i := 15) rfl
theorem kc_162_201 : xe_code 162 201 = some (.iload 5, []) := kg_162_2 (i := 16) rfl
theorem kc_162_203 : xe_code 162 203 = some (.bipush (-9), []) := kg_162_2 (i := 17) rfl
theorem kc_162_205 : xe_code 162 205 = some (.if_icmp .ne 7, [212]) := kg_162_2 (i := 18) rfl
theorem kc_162_208 : xe_code 162 208 = some (.iconst 0, []) := kg_162_2 (i := 19) rfl
theorem kc_162_209 : xe_code 162 209 = some (.goto 5, [214]) := kg_162_2 (i := 20) rfl
theorem kc_162_212 : xe_code 162 212 = some (.iload 5, []) := kg_162_2 (i := 21) rfl
theorem kc_162_214 : xe_code 162 214 = some (.iastore, []) := kg_162_2 (i := 22) rfl
theorem kc_162_215 : xe_code 162 215 = some (.aload_n 0, []) := kg_162_2 (i := 23) rfl
theorem kc_162_216 : xe_code 162 216 = some (.getfield 19, [6, 2, 270]) := kg_162_2 (i := 24) rfl
theorem kc_162_219 : xe_code 162 219 = some (.iload_n 3, []) := kg_162_2 (i := 25) rfl
theorem kc_162_220 : xe_code 162 220 = some (.iaload, []) := kg_162_2 (i := 26) rfl
theorem kc_162_221 : xe_code 162 221 = some (.ireturn, []) := kg_162_2 (i := 27) rfl
theorem kc_163_0 : xe_code 163 0 = some (.iload_n 1, []) := kg_163_0 (i := 0) rfl
theorem kc_163_1 : xe_code 163 1 = some (.invokestatic 68, [89, 1, 404, 0]) := kg_163_0 (i := 1) rfl
theorem kc_163_4 : xe_code 163 4 = some (.ifCond .ne 9, [13]) := kg_163_0 (i := 2) rfl
theorem kc_163_7 : xe_code 163 7 = some (.aload_n 0, []) := kg_163_0 (i := 3) rfl
theorem kc_163_8 : xe_code 163 8 = some (.iconst (-1), []) := kg_163_0 (i := 4) rfl
theorem kc_163_9 : xe_code 163 9 = some (.invokevirtual 72, [90, 1, 407, 0]) := kg_163_0 (i := 5) rfl
theorem kc_163_12 : xe_code 163 12 = some (.ireturn, []) := kg_163_0 (i := 6) rfl
theorem kc_163_13 : xe_code 163 13 = some (.iload_n 2, []) := kg_163_0 (i := 7) rfl
theorem kc_163_14 : xe_code 163 14 = some (.ifCond .eq 15, [29]) := kg_163_0 (i := 8) rfl
theorem kc_163_17 : xe_code 163 17 = some (.iload_n 2, []) := kg_163_0 (i := 9) rfl
theorem kc_163_18 : xe_code 163 18 = some (.iconst 1, []) := kg_163_0 (i := 10) rfl
theorem kc_163_19 : xe_code 163 19 = some (.if_icmp .eq 10, [29]) := kg_163_0 (i := 11) rfl
theorem kc_163_22 : xe_code 163 22 = some (.aload_n 0, []) := kg_163_0 (i := 12) rfl
theorem kc_163_23 : xe_code 163 23 = some (.bipush (-2), []) := kg_163_0 (i := 13) rfl
theorem kc_163_25 : xe_code 163 25 = some (.invokevirtual 72, [90, 1, 407, 0]) := kg_163_0 (i := 14) rfl
theorem kc_163_28 : xe_code 163 28 = some (.ireturn, []) := kg_163_0 (i := 15) rfl
theorem kc_163_29 : xe_code 163 29 = some (.aload_n 0, []) := kg_163_0 (i := 16) rfl
theorem kc_163_30 : xe_code 163 30 = some (.iload_n 1, []) := kg_163_0 (i := 17) rfl
theorem kc_163_31 : xe_code 163 31 = some (.iload 4, []) := kg_163_0 (i := 18) rfl
theorem kc_163_33 : xe_code 163 33 = some (.iload 5, []) := kg_163_0 (i := 19) rfl
theorem kc_163_35 : xe_code 163 35 = some (.invokevirtual 239, [164, 3, 746, 0]) := kg_163_0 (i := 20) rfl
theorem kc_163_38 : xe_code 163 38 = some (.ifCond .eq 10, [48]) := kg_163_0 (i := 21) rfl
theorem kc_163_41 : xe_code 163 41 = some (.aload_n 0, []) := kg_163_0 (i := 22) rfl
theorem kc_163_42 : xe_code 163 42 = some (.bipush (-3), []) := kg_163_0 (i := 23) rfl
theorem kc_163_44 : xe_code 163 44 = some (.invokevirtual 72, [90, 1, 407, 0]) := kg_163_0 (i := 24) rfl
theorem kc_163_47 : xe_code 163 47 = some (.ireturn, []) := kg_163_0 (i := 25) rfl
theorem kc_163_48 : xe_code 163 48 = some (.iload_n 3, []) := kg_163_0 (i := 26) rfl
theorem kc_163_49 : xe_code 163 49 = some (.ifCond .lt 19, [68]) := kg_163_0 (i := 27) rfl
theorem kc_163_52 : xe_code 163 52 = some (.iload 4, []) := kg_163_0 (i := 28) rfl
theorem kc_163_54 : xe_code 163 54 = some (.aload_n 0, []) := kg_163_0 (i := 29) rfl
theorem kc_163_55 : xe_code 163 55 = some (.getfield 148, [0, 9, 378]) := kg_163_0 (i := 30) rfl
theorem kc_163_58 : xe_code 163 58 = some (.if_icmp .lt 10, [68]) := kg_163_0 (i := 31) rfl
theorem kc_163_61 : xe_code 163 61 = some (.iload 5, []) := kg_163_0 (i := 32) rfl
theorem kc_163_63 : xe_code 163 63 = some (.iload 4, []) := kg_163_0 (i := 33) rfl
theorem kc_163_65 : xe_code 163 65 = some (.if_icmp .gt 10, [75]) := kg_163_0 (i := 34) rfl
theorem kc_163_68 : xe_code 163 68 = some (.aload_n 0, []) := kg_163_0 (i := 35) rfl
theorem kc_163_69 : xe_code 163 69 = some (.bipush (-4), []) := kg_163_0 (i := 36) rfl
theorem kc_163_71 : xe_code 163 71 = some (.invokevirtual 72, [90, 1, 407, 0]) := kg_163_0 (i := 37) rfl
theorem kc_163_74 : xe_code 163 74 = some (.ireturn, []) := kg_163_0 (i := 38) rfl
theorem kc_163_75 : xe_code 163 75 = some (.iload_n 3, []) := kg_163_0 (i := 39) rfl
theorem kc_163_76 : xe_code 163 76 = some (.getstatic 79, [2, 413]) := kg_163_0 (i := 40) rfl
theorem kc_163_79 : xe_code 163 79 = some (.iconst 2, []) := kg_163_0 (i := 41) rfl
theorem kc_163_80 : xe_code 163 80 = some (.iaload, []) := kg_163_0 (i := 42) rfl
theorem kc_163_81 : xe_code 163 81 = some (.if_icmp .gt 20, [101]) := kg_163_0 (i := 43) rfl
theorem kc_163_84 : xe_code 163 84 = some (.iload 5, []) := kg_163_0 (i := 44) rfl
theorem kc_163_86 : xe_code 163 86 = some (.sipush 600, []) := kg_163_0 (i := 45) rfl
theorem kc_163_89 : xe_code 163 89 = some (.if_icmp .gt 12, [101]) := kg_163_0 (i := 46) rfl
theorem kc_163_92 : xe_code 163 92 = some (.aload_n 0, []) := kg_163_0 (i := 47) rfl
theorem kc_163_93 : xe_code 163 93 = some (.getfield 243, [0, 8, 377]) := kg_163_1 (i := 0) rfl
theorem kc_163_96 : xe_code 163 96 = some (.bipush 20, []) := kg_163_1 (i := 1) rfl
theorem kc_163_98 : xe_code 163 98 = some (.if_icmp .lt 10, [108]) := kg_163_1 (i := 2) rfl
theorem kc_163_101 : xe_code 163 101 = some (.aload_n 0, []) := kg_163_1 (i := 3) rfl
theorem kc_163_102 : xe_code 163 102 = some (.bipush (-6), []) := kg_163_1 (i := 4) rfl
theorem kc_163_104 : xe_code 163 104 = some (.invokevirtual 72, [90, 1, 407, 0]) := kg_163_1 (i := 5) rfl
theorem kc_163_107 : xe_code 163 107 = some (.ireturn, []) := kg_163_1 (i := 6) rfl
theorem kc_163_108 : xe_code 163 108 = some (.aload_n 0, []) := kg_163_1 (i := 7) rfl
theorem kc_163_109 : xe_code 163 109 = some (.getfield 55, [0, 6, 375]) := kg_163_1 (i := 8) rfl
theorem kc_163_112 : xe_code 163 112 = some (.aload_n 0, []) := kg_163_1 (i := 9) rfl
theorem kc_163_113 : xe_code 163 113 = some (.getfield 243, [0, 8, 377]) := kg_163_1 (i := 10) rfl
theorem kc_163_116 : xe_code 163 116 = some (.aaload, []) := kg_163_1 (i := 11) rfl
theorem kc_163_117 : xe_code 163 117 = some (.astore 6, []) := kg_163_1 (i := 12) rfl
theorem kc_163_119 : xe_code 163 119 = some (.aload 6, []) := kg_163_1 (i := 13) rfl
theorem kc_163_121 : xe_code 163 121 = some (.iload_n 1, []) := kg_163_1 (i := 14) rfl
theorem kc_163_122 : xe_code 163 122 = some (.putfield 246, [10, 0, 350]) := kg_163_1 (i := 15) rfl
theorem kc_163_125 : xe_code 163 125 = some (.aload 6, []) := kg_163_1 (i := 16) rfl
theorem kc_163_127 : xe_code 163 127 = some (.iload_n 2, []) := kg_163_1 (i := 17) rfl
theorem kc_163_128 : xe_code 163 128 = some (.ifCond .ne 7, [135]) := kg_163_1 (i := 18) rfl
theorem kc_163_131 : xe_code 163 131 = some (.iconst 4, []) := kg_163_1 (i := 19) rfl
theorem kc_163_132 : xe_code 163 132 = some (.goto 4, [136]) := kg_163_1 (i := 20) rfl
theorem kc_163_135 : xe_code 163 135 = some (.iconst 2, []) := kg_163_1 (i := 21) rfl
theorem kc_163_136 : xe_code 163 136 = some (.putfield 247, [10, 1, 351]) := kg_163_1 (i := 22) rfl
theorem kc_163_139 : xe_code 163 139 = some (.aload 6, []) := kg_163_1 (i := 23) rfl
theorem kc_163_141 : xe_code 163 141 = some (.iload_n 2, []) := kg_163_1 (i := 24) rfl
theorem kc_163_142 : xe_code 163 142 = some (.ifCond .ne 7, [149]) := kg_163_1 (i := 25) rfl
theorem kc_163_145 : xe_code 163 145 = some (.iconst 1, []) := kg_163_1 (i := 26) rfl
theorem kc_163_146 : xe_code 163 146 = some (.goto 4, [150]) := kg_163_1 (i := 27) rfl
theorem kc_163_149 : xe_code 163 149 = some (.iload_n 3, []) := kg_163_1 (i := 28) rfl
theorem kc_163_150 : xe_code 163 150 = some (.putfield 250, [10, 2, 352]) := kg_163_1 (i := 29) rfl
theorem kc_163_153 : xe_code 163 153 = some (.aload 6, []) := kg_163_1 (i := 30) rfl
theorem kc_163_155 : xe_code 163 155 = some (.iload 4, []) := kg_163_1 (i := 31) rfl
theorem kc_163_157 : xe_code 163 157 = some (.putfield 253, [10, 3, 353]) := kg_163_1 (i := 32) rfl
theorem kc_163_160 : xe_code 163 160 = some (.aload 6, []) := kg_163_1 (i := 33) rfl
theorem kc_163_162 : xe_code 163 162 = some (.iload 5, []) := kg_163_1 (i := 34) rfl
theorem kc_163_164 : xe_code 163 164 = some (.putfield 256, [10, 4, 354]) := kg_163_1 (i := 35) rfl
theorem kc_163_167 : xe_code 163 167 = some (.aload_n 0, []) := kg_163_1 (i := 36) rfl
theorem kc_163_168 : xe_code 163 168 = some (.dup, []) := kg_163_1 (i := 37) rfl
theorem kc_163_169 : xe_code 163 169 = some (.getfield 243, [0, 8, 377]) := kg_163_1 (i := 38) rfl
theorem kc_163_172 : xe_code 163 172 = some (.iconst 1, []) := kg_163_1 (i := 39) rfl
theorem kc_163_173 : xe_code 163 173 = some (.iadd, []) := kg_163_1 (i := 40) rfl
theorem kc_163_174 : xe_code 163 174 = some (.putfield 243, [0, 8, 377]) := kg_163_1 (i := 41) rfl
theorem kc_163_177 : xe_code 163 177 = some (.aload_n 0, []) := kg_163_1 (i := 42) rfl
theorem kc_163_178 : xe_code 163 178 = some (.getfield 243, [0, 8, 377]) := kg_163_1 (i := 43) rfl
theorem kc_163_181 : xe_code 163 181 = some (.iconst 1, []) := kg_163_1 (i := 44) rfl
theorem kc_163_182 : xe_code 163 182 = some (.isub, []) := kg_163_1 (i := 45) rfl
theorem kc_163_183 : xe_code 163 183 = some (.ireturn, []) := kg_163_1 (i := 46) rfl
theorem kc_164_0 : xe_code 164 0 = some (.iconst 0, []) := kg_164_0 (i := 0) rfl
theorem kc_164_1 : xe_code 164 1 = some (.istore 4, []) := kg_164_0 (i := 1) rfl
theorem kc_164_3 : xe_code 164 3 = some (.iload 4, []) := kg_164_0 (i := 2) rfl
theorem kc_164_5 : xe_code 164 5 = some (.aload_n 0, []) := kg_164_0 (i := 3) rfl
theorem kc_164_6 : xe_code 164 6 = some (.getfield 243, [0, 8, 377]) := kg_164_0 (i := 4) rfl
theorem kc_164_9 : xe_code 164 9 = some (.if_icmp .ge 59, [68]) := kg_164_0 (i := 5) rfl
theorem kc_164_12 : xe_code 164 12 = some (.iload 4, []) := kg_164_0 (i := 6) rfl
theorem kc_164_14 : xe_code 164 14 = some (.bipush 20, []) := kg_164_0 (i := 7) rfl
theorem kc_164_16 : xe_code 164 16 = some (.if_icmp .ge 52, [68]) := kg_164_0 (i := 8) rfl
theorem kc_164_19 : xe_code 164 19 = some (.aload_n 0, []) := kg_164_0 (i := 9) rfl
theorem kc_164_20 : xe_code 164 20 = some (.getfield 55, [0, 6, 375]) := kg_164_0 (i := 10) rfl
theorem kc_164_23 : xe_code 164 23 = some (.iload 4, []) := kg_164_0 (i := 11) rfl
theorem kc_164_25 : xe_code 164 25 = some (.aaload, []) := kg_164_0 (i := 12) rfl
theorem kc_164_26 : xe_code 164 26 = some (.astore 5, []) := kg_164_0 (i := 13) rfl
theorem kc_164_28 : xe_code 164 28 = some (.iload_n 2, []) := kg_164_0 (i := 14) rfl
theorem kc_164_29 : xe_code 164 29 = some (.iload_n 3, []) := kg_164_0 (i := 15) rfl
theorem kc_164_30 : xe_code 164 30 = some (.if_icmp .ge 32, [62]) := kg_164_0 (i := 16) rfl
theorem kc_164_33 : xe_code 164 33 = some (.aload 5, []) := kg_164_0 (i := 17) rfl
theorem kc_164_35 : xe_code 164 35 = some (.getfield 246, [10, 0, 350]) := kg_164_0 (i := 18) rfl
theorem kc_164_38 : xe_code 164 38 = some (.iload_n 1, []) := kg_164_0 (i := 19) rfl
theorem kc_164_39 : xe_code 164 39 = some (.if_icmp .ne 23, [62]) := kg_164_0 (i := 20) rfl
theorem kc_164_42 : xe_code 164 42 = some (.iload_n 2, []) := kg_164_0 (i := 21) rfl
theorem kc_164_43 : xe_code 164 43 = some (.aload 5, []) := kg_164_0 (i := 22) rfl
theorem kc_164_45 : xe_code 164 45 = some (.getfield 256, [10, 4, 354]) := kg_164_0 (i := 23) rfl
theorem kc_164_48 : xe_code 164 48 = some (.if_icmp .ge 14, [62]) := kg_164_0 (i := 24) rfl
theorem kc_164_51 : xe_code 164 51 = some (.aload 5, []) := kg_164_0 (i := 25) rfl
theorem kc_164_53 : xe_code 164 53 = some (.getfield 253, [10, 3, 353]) := kg_164_0 (i := 26) rfl
theorem kc_164_56 : xe_code 164 56 = some (.iload_n 3, []) := kg_164_0 (i := 27) rfl
theorem kc_164_57 : xe_code 164 57 = some (.if_icmp .ge 5, [62]) := kg_164_0 (i := 28) rfl
theorem kc_164_60 : xe_code 164 60 = some (.iconst 1, []) := kg_164_0 (i := 29) rfl
theorem kc_164_61 : xe_code 164 61 = some (.ireturn, []) := kg_164_0 (i := 30) rfl
theorem kc_164_62 : xe_code 164 62 = some (.iinc 4 1, []) := kg_164_0 (i := 31) rfl
theorem kc_164_65 : xe_code 164 65 = some (.goto (-62), [3]) := kg_164_0 (i := 32) rfl
theorem kc_164_68 : xe_code 164 68 = some (.iconst 0, []) := kg_164_0 (i := 33) rfl
theorem kc_164_69 : xe_code 164 69 = some (.ireturn, []) := kg_164_0 (i := 34) rfl
theorem kc_165_0 : xe_code 165 0 = some (.iload_n 1, []) := kg_165_0 (i := 0) rfl
theorem kc_165_1 : xe_code 165 1 = some (.ifCond .lt 17, [18]) := kg_165_0 (i := 1) rfl
theorem kc_165_4 : xe_code 165 4 = some (.iload_n 1, []) := kg_165_0 (i := 2) rfl
theorem kc_165_5 : xe_code 165 5 = some (.aload_n 0, []) := kg_165_0 (i := 3) rfl
theorem kc_165_6 : xe_code 165 6 = some (.getfield 243, [0, 8, 377]) := kg_165_0 (i := 4) rfl
theorem kc_165_9 : xe_code 165 9 = some (.if_icmp .ge 9, [18]) := kg_165_0 (i := 5) rfl
theorem kc_165_12 : xe_code 165 12 = some (.iload_n 1, []) := kg_165_0 (i := 6) rfl
theorem kc_165_13 : xe_code 165 13 = some (.bipush 20, []) := kg_165_0 (i := 7) rfl
theorem kc_165_15 : xe_code 165 15 = some (.if_icmp .lt 9, [24]) := kg_165_0 (i := 8) rfl
theorem kc_165_18 : xe_code 165 18 = some (.aload_n 0, []) := kg_165_0 (i := 9) rfl
theorem kc_165_19 : xe_code 165 19 = some (.iconst (-1), []) := kg_165_0 (i := 10) rfl
theorem kc_165_20 : xe_code 165 20 = some (.invokevirtual 72, [90, 1, 407, 0]) := kg_165_0 (i := 11) rfl
theorem kc_165_23 : xe_code 165 23 = some (.ireturn, []) := kg_165_0 (i := 12) rfl
theorem kc_165_24 : xe_code 165 24 = some (.iload_n 2, []) := kg_165_0 (i := 13) rfl
theorem kc_165_25 : xe_code 165 25 = some (.ifCond .lt 8, [33]) := kg_165_0 (i := 14) rfl
theorem kc_165_28 : xe_code 165 28 = some (.iload_n 2, []) := kg_165_0 (i := 15) rfl
theorem kc_165_29 : xe_code 165 29 = some (.iconst 2, []) := kg_165_0 (i := 16) rfl
theorem kc_165_30 : xe_code 165 30 = some (.if_icmp .le 10, [40]) := kg_165_0 (i := 17) rfl
theorem kc_165_33 : xe_code 165 33 = some (.aload_n 0, []) := kg_165_0 (i := 18) rfl
theorem kc_165_34 : xe_code 165 34 = some (.bipush (-2), []) := kg_165_0 (i := 19) rfl
theorem kc_165_36 : xe_code 165 36 = some (.invokevirtual 72, [90, 1, 407, 0]) := kg_165_0 (i := 20) rfl
theorem kc_165_39 : xe_code 165 39 = some (.ireturn, []) := kg_165_0 (i := 21) rfl
theorem kc_165_40 : xe_code 165 40 = some (.aload_n 0, []) := kg_165_0 (i := 22) rfl
theorem kc_165_41 : xe_code 165 41 = some (.getfield 55, [0, 6, 375]) := kg_165_0 (i := 23) rfl
theorem kc_165_44 : xe_code 165 44 = some (.iload_n 1, []) := kg_165_0 (i := 24) rfl
theorem kc_165_45 : xe_code 165 45 = some (.aaload, []) := kg_165_0 (i := 25) rfl
theorem kc_165_46 : xe_code 165 46 = some (.astore_n 3, []) := kg_165_0 (i := 26) rfl
theorem kc_165_47 : xe_code 165 47 = some (.aload_n 0, []) := kg_165_0 (i := 27) rfl
theorem kc_165_48 : xe_code 165 48 = some (.getfield 148, [0, 9, 378]) := kg_165_0 (i := 28) rfl
theorem kc_165_51 : xe_code 165 51 = some (.aload_n 3, []) := kg_165_0 (i := 29) rfl
theorem kc_165_52 : xe_code 165 52 = some (.getfield 256, [10, 4, 354]) := kg_165_0 (i := 30) rfl
theorem kc_165_55 : xe_code 165 55 = some (.if_icmp .ge 10, [65]) := kg_165_0 (i := 31) rfl
theorem kc_165_58 : xe_code 165 58 = some (.aload_n 0, []) := kg_165_0 (i := 32) rfl
theorem kc_165_59 : xe_code 165 59 = some (.bipush (-3), []) := kg_165_0 (i := 33) rfl
theorem kc_165_61 : xe_code 165 61 = some (.invokevirtual 72, [90, 1, 407, 0]) := kg_165_0 (i := 34) rfl
theorem kc_165_64 : xe_code 165 64 = some (.ireturn, []) := kg_165_0 (i := 35) rfl
theorem kc_165_65 : xe_code 165 65 = some (.aload_n 0, []) := kg_165_0 (i := 36) rfl
theorem kc_165_66 : xe_code 165 66 = some (.getfield 10, [0, 0, 369]) := kg_165_0 (i := 37) rfl
theorem kc_165_69 : xe_code 165 69 = some (.aload_n 3, []) := kg_165_0 (i := 38) rfl
theorem kc_165_70 : xe_code 165 70 = some (.getfield 246, [10, 0, 350]) := kg_165_0 (i := 39) rfl
theorem kc_165_73 : xe_code 165 73 = some (.aload_n 3, []) := kg_165_0 (i := 40) rfl
theorem kc_165_74 : xe_code 165 74 = some (.getfield 253, [10, 3, 353]) := kg_165_0 (i := 41) rfl
theorem kc_165_77 : xe_code 165 77 = some (.aload_n 3, []) := kg_165_0 (i := 42) rfl
theorem kc_165_78 : xe_code 165 78 = some (.getfield 256, [10, 4, 354]) := kg_165_0 (i := 43) rfl
theorem kc_165_81 : xe_code 165 81 = some (.invokevirtual 259, [166, 3, 754, 4]) := kg_165_0 (i := 44) rfl
theorem kc_165_84 : xe_code 165 84 = some (.istore 4, []) := kg_165_0 (i := 45) rfl
theorem kc_165_86 : xe_code 165 86 = some (.aload_n 0, []) := kg_165_0 (i := 46) rfl
theorem kc_165_87 : xe_code 165 87 = some (.getfield 10, [0, 0, 369]) := kg_165_0 (i := 47) rfl
theorem kc_165_90 : xe_code 165 90 = some (.aload_n 3, []) := kg_165_1 (i := 0) rfl
theorem kc_165_91 : xe_code 165 91 = some (.getfield 246, [10, 0, 350]) := kg_165_1 (i := 1) rfl
theorem kc_165_94 : xe_code 165 94 = some (.aload_n 3, []) := kg_165_1 (i := 2) rfl
theorem kc_165_95 : xe_code 165 95 = some (.getfield 253, [10, 3, 353]) := kg_165_1 (i := 3) rfl
theorem kc_165_98 : xe_code 165 98 = some (.aload_n 3, []) := kg_165_1 (i := 4) rfl
theorem kc_165_99 : xe_code 165 99 = some (.getfield 256, [10, 4, 354]) := kg_165_1 (i := 5) rfl
theorem kc_165_102 : xe_code 165 102 = some (.aload_n 3, []) := kg_165_1 (i := 6) rfl
theorem kc_165_103 : xe_code 165 103 = some (.getfield 253, [10, 3, 353]) := kg_165_1 (i := 7) rfl
theorem kc_165_106 : xe_code 165 106 = some (.isub, []) := kg_165_1 (i := 8) rfl
theorem kc_165_107 : xe_code 165 107 = some (.isub, []) := kg_165_1 (i := 9) rfl
theorem kc_165_108 : xe_code 165 108 = some (.aload_n 3, []) := kg_165_1 (i := 10) rfl
theorem kc_165_109 : xe_code 165 109 = some (.getfield 253, [10, 3, 353]) := kg_165_1 (i := 11) rfl
theorem kc_165_112 : xe_code 165 112 = some (.invokevirtual 259, [166, 3, 754, 4]) := kg_165_1 (i := 12) rfl
theorem kc_165_115 : xe_code 165 115 = some (.istore 5, []) := kg_165_1 (i := 13) rfl
theorem kc_165_117 : xe_code 165 117 = some (.iload_n 2, []) := kg_165_1 (i := 14) rfl
theorem kc_165_118 : xe_code 165 118 = some (.iconst 2, []) := kg_165_1 (i := 15) rfl
theorem kc_165_119 : xe_code 165 119 = some (.if_icmp .ne 16, [135]) := kg_165_1 (i := 16) rfl
theorem kc_165_122 : xe_code 165 122 = some (.iload 4, []) := kg_165_1 (i := 17) rfl
theorem kc_165_124 : xe_code 165 124 = some (.iload 5, []) := kg_165_1 (i := 18) rfl
theorem kc_165_126 : xe_code 165 126 = some (.if_icmp .ge 7, [133]) := kg_165_1 (i := 19) rfl
theorem kc_165_129 : xe_code 165 129 = some (.iconst 1, []) := kg_165_1 (i := 20) rfl
theorem kc_165_130 : xe_code 165 130 = some (.goto 4, [134]) := kg_165_1 (i := 21) rfl
theorem kc_165_133 : xe_code 165 133 = some (.iconst 0, []) := kg_165_1 (i := 22) rfl
theorem kc_165_134 : xe_code 165 134 = some (.ireturn, []) := kg_165_1 (i := 23) rfl
theorem kc_165_135 : xe_code 165 135 = some (.iload_n 2, []) := kg_165_1 (i := 24) rfl
theorem kc_165_136 : xe_code 165 136 = some (.ifCond .ne 8, [144]) := kg_165_1 (i := 25) rfl
theorem kc_165_139 : xe_code 165 139 = some (.iload 4, []) := kg_165_1 (i := 26) rfl
theorem kc_165_141 : xe_code 165 141 = some (.goto 5, [146]) := kg_165_1 (i := 27) rfl
theorem kc_165_144 : xe_code 165 144 = some (.iload 5, []) := kg_165_1 (i := 28) rfl
theorem kc_165_146 : xe_code 165 146 = some (.ireturn, []) := kg_165_1 (i := 29) rfl
theorem kc_166_0 : xe_code 166 0 = some (.iload_n 2, []) := kg_166_0 (i := 0) rfl
theorem kc_166_1 : xe_code 166 1 = some (.ifCond .ge 7, [8]) := kg_166_0 (i := 1) rfl
theorem kc_166_4 : xe_code 166 4 = some (.iconst 0, []) := kg_166_0 (i := 2) rfl
theorem kc_166_5 : xe_code 166 5 = some (.goto 4, [9]) := kg_166_0 (i := 3) rfl
theorem kc_166_8 : xe_code 166 8 = some (.iload_n 2, []) := kg_166_0 (i := 4) rfl
theorem kc_166_9 : xe_code 166 9 = some (.istore 4, []) := kg_166_0 (i := 5) rfl
theorem kc_166_11 : xe_code 166 11 = some (.iload_n 3, []) := kg_166_0 (i := 6) rfl
theorem kc_166_12 : xe_code 166 12 = some (.sipush 600, []) := kg_166_0 (i := 7) rfl
theorem kc_166_15 : xe_code 166 15 = some (.if_icmp .le 9, [24]) := kg_166_0 (i := 8) rfl
theorem kc_166_18 : xe_code 166 18 = some (.sipush 600, []) := kg_166_0 (i := 9) rfl
theorem kc_166_21 : xe_code 166 21 = some (.goto 4, [25]) := kg_166_0 (i := 10) rfl
theorem kc_166_24 : xe_code 166 24 = some (.iload_n 3, []) := kg_166_0 (i := 11) rfl
theorem kc_166_25 : xe_code 166 25 = some (.istore 5, []) := kg_166_0 (i := 12) rfl
theorem kc_166_27 : xe_code 166 27 = some (.lconst 0, []) := kg_166_0 (i := 13) rfl
theorem kc_166_28 : xe_code 166 28 = some (.lstore 6, []) := kg_166_0 (i := 14) rfl
theorem kc_166_30 : xe_code 166 30 = some (.lconst 0, []) := kg_166_0 (i := 15) rfl
theorem kc_166_31 : xe_code 166 31 = some (.lstore 8, []) := kg_166_0 (i := 16) rfl
theorem kc_166_33 : xe_code 166 33 = some (.iconst 0, []) := kg_166_0 (i := 17) rfl
theorem kc_166_34 : xe_code 166 34 = some (.istore 10, []) := kg_166_0 (i := 18) rfl
theorem kc_166_36 : xe_code 166 36 = some (.iload 10, []) := kg_166_0 (i := 19) rfl
theorem kc_166_38 : xe_code 166 38 = some (.bipush 12, []) := kg_166_0 (i := 20) rfl
theorem kc_166_40 : xe_code 166 40 = some (.if_icmp .ge 65, [105]) := kg_166_0 (i := 21) rfl
theorem kc_166_43 : xe_code 166 43 = some (.aload_n 0, []) := kg_166_0 (i := 22) rfl
theorem kc_166_44 : xe_code 166 44 = some (.getfield 19, [4, 1, 172]) := kg_166_0 (i := 23) rfl
theorem kc_166_47 : xe_code 166 47 = some (.iload 10, []) := kg_166_0 (i := 24) rfl
theorem kc_166_49 : xe_code 166 49 = some (.aaload, []) := kg_166_0 (i := 25) rfl
theorem kc_166_50 : xe_code 166 50 = some (.getfield 69, [11, 0, 131]) := kg_166_0 (i := 26) rfl
theorem kc_166_53 : xe_code 166 53 = some (.iload_n 1, []) := kg_166_0 (i := 27) rfl
theorem kc_166_54 : xe_code 166 54 = some (.if_icmp .ne 45, [99]) := kg_166_0 (i := 28) rfl
theorem kc_166_57 : xe_code 166 57 = some (.iload 4, []) := kg_166_0 (i := 29) rfl
theorem kc_166_59 : xe_code 166 59 = some (.istore 11, []) := kg_166_0 (i := 30) rfl
theorem kc_166_61 : xe_code 166 61 = some (.iload 11, []) := kg_166_0 (i := 31) rfl
theorem kc_166_63 : xe_code 166 63 = some (.iload 5, []) := kg_166_0 (i := 32) rfl
theorem kc_166_65 : xe_code 166 65 = some (.if_icmp .ge 34, [99]) := kg_166_0 (i := 33) rfl
theorem kc_166_68 : xe_code 166 68 = some (.lload 6, []) := kg_166_0 (i := 34) rfl
theorem kc_166_70 : xe_code 166 70 = some (.aload_n 0, []) := kg_166_0 (i := 35) rfl
theorem kc_166_71 : xe_code 166 71 = some (.getfield 19, [4, 1, 172]) := kg_166_0 (i := 36) rfl
theorem kc_166_74 : xe_code 166 74 = some (.iload 10, []) := kg_166_0 (i := 37) rfl
theorem kc_166_76 : xe_code 166 76 = some (.aaload, []) := kg_166_0 (i := 38) rfl
theorem kc_166_77 : xe_code 166 77 = some (.getfield 122, [11, 4, 140]) := kg_166_0 (i := 39) rfl
theorem kc_166_80 : xe_code 166 80 = some (.iload 11, []) := kg_166_0 (i := 40) rfl
theorem kc_166_82 : xe_code 166 82 = some (.iaload, []) := kg_166_0 (i := 41) rfl
theorem kc_166_83 : xe_code 166 83 = some (.i2l, []) := kg_166_0 (i := 42) rfl
theorem kc_166_84 : xe_code 166 84 = some (.ladd, []) := kg_166_0 (i := 43) rfl
theorem kc_166_85 : xe_code 166 85 = some (.lstore 6, []) := kg_166_0 (i := 44) rfl
theorem kc_166_87 : xe_code 166 87 = some (.lload 8, []) := kg_166_0 (i := 45) rfl
theorem kc_166_89 : xe_code 166 89 = some (.lconst 1, []) := kg_166_0 (i := 46) rfl
theorem kc_166_90 : xe_code 166 90 = some (.ladd, []) := kg_166_0 (i := 47) rfl
theorem kc_166_91 : xe_code 166 91 = some (.lstore 8, []) := kg_166_1 (i := 0) rfl
theorem kc_166_93 : xe_code 166 93 = some (.iinc 11 1, []) := kg_166_1 (i := 1) rfl
theorem kc_166_96 : xe_code 166 96 = some (.goto (-35), [61]) := kg_166_1 (i := 2) rfl
theorem kc_166_99 : xe_code 166 99 = some (.iinc 10 1, []) := kg_166_1 (i := 3) rfl
theorem kc_166_102 : xe_code 166 102 = some (.goto (-66), [36]) := kg_166_1 (i := 4) rfl
theorem kc_166_105 : xe_code 166 105 = some (.lload 8, []) := kg_166_1 (i := 5) rfl
theorem kc_166_107 : xe_code 166 107 = some (.lconst 0, []) := kg_166_1 (i := 6) rfl
theorem kc_166_108 : xe_code 166 108 = some (.lcmp, []) := kg_166_1 (i := 7) rfl
theorem kc_166_109 : xe_code 166 109 = some (.ifCond .ne 7, [116]) := kg_166_1 (i := 8) rfl
theorem kc_166_112 : xe_code 166 112 = some (.iconst 0, []) := kg_166_1 (i := 9) rfl
theorem kc_166_113 : xe_code 166 113 = some (.goto 9, [122]) := kg_166_1 (i := 10) rfl
theorem kc_166_116 : xe_code 166 116 = some (.lload 6, []) := kg_166_1 (i := 11) rfl
theorem kc_166_118 : xe_code 166 118 = some (.lload 8, []) := kg_166_1 (i := 12) rfl
theorem kc_166_120 : xe_code 166 120 = some (.ldiv, []) := kg_166_1 (i := 13) rfl
theorem kc_166_121 : xe_code 166 121 = some (.l2i, []) := kg_166_1 (i := 14) rfl
theorem kc_166_122 : xe_code 166 122 = some (.ireturn, []) := kg_166_1 (i := 15) rfl
theorem kc_167_0 : xe_code 167 0 = some (.iload_n 1, []) := kg_167_0 (i := 0) rfl
theorem kc_167_1 : xe_code 167 1 = some (.ifCond .lt 28, [29]) := kg_167_0 (i := 1) rfl
theorem kc_167_4 : xe_code 167 4 = some (.iload_n 1, []) := kg_167_0 (i := 2) rfl
theorem kc_167_5 : xe_code 167 5 = some (.bipush 24, []) := kg_167_0 (i := 3) rfl
theorem kc_167_7 : xe_code 167 7 = some (.if_icmp .ge 22, [29]) := kg_167_0 (i := 4) rfl
theorem kc_167_10 : xe_code 167 10 = some (.iload_n 2, []) := kg_167_0 (i := 5) rfl
theorem kc_167_11 : xe_code 167 11 = some (.ifCond .lt 18, [29]) := kg_167_0 (i := 6) rfl
theorem kc_167_14 : xe_code 167 14 = some (.iload_n 2, []) := kg_167_0 (i := 7) rfl
theorem kc_167_15 : xe_code 167 15 = some (.iconst 4, []) := kg_167_0 (i := 8) rfl
theorem kc_167_16 : xe_code 167 16 = some (.if_icmp .ge 13, [29]) := kg_167_0 (i := 9) rfl
theorem kc_167_19 : xe_code 167 19 = some (.iload_n 3, []) := kg_167_0 (i := 10) rfl
theorem kc_167_20 : xe_code 167 20 = some (.ifCond .lt 9, [29]) := kg_167_0 (i := 11) rfl
theorem kc_167_23 : xe_code 167 23 = some (.iload_n 3, []) := kg_167_0 (i := 12) rfl
theorem kc_167_24 : xe_code 167 24 = some (.bipush 6, []) := kg_167_0 (i := 13) rfl
theorem kc_167_26 : xe_code 167 26 = some (.if_icmp .lt 9, [35]) := kg_167_0 (i := 14) rfl
theorem kc_167_29 : xe_code 167 29 = some (.aload_n 0, []) := kg_167_0 (i := 15) rfl
theorem kc_167_30 : xe_code 167 30 = some (.iconst (-1), []) := kg_167_0 (i := 16) rfl
theorem kc_167_31 : xe_code 167 31 = some (.invokevirtual 72, [90, 1, 407, 0]) := kg_167_0 (i := 17) rfl
theorem kc_167_34 : xe_code 167 34 = some (.ireturn, []) := kg_167_0 (i := 18) rfl
theorem kc_167_35 : xe_code 167 35 = some (.iload 4, []) := kg_167_0 (i := 19) rfl
theorem kc_167_37 : xe_code 167 37 = some (.ifCond .lt 9, [46]) := kg_167_0 (i := 20) rfl
theorem kc_167_40 : xe_code 167 40 = some (.iload 4, []) := kg_167_0 (i := 21) rfl
theorem kc_167_42 : xe_code 167 42 = some (.iconst 2, []) := kg_167_0 (i := 22) rfl
theorem kc_167_43 : xe_code 167 43 = some (.if_icmp .le 10, [53]) := kg_167_0 (i := 23) rfl
theorem kc_167_46 : xe_code 167 46 = some (.aload_n 0, []) := kg_167_0 (i := 24) rfl
theorem kc_167_47 : xe_code 167 47 = some (.bipush (-2), []) := kg_167_0 (i := 25) rfl
theorem kc_167_49 : xe_code 167 49 = some (.invokevirtual 72, [90, 1, 407, 0]) := kg_167_0 (i := 26) rfl
theorem kc_167_52 : xe_code 167 52 = some (.ireturn, []) := kg_167_0 (i := 27) rfl
theorem kc_167_53 : xe_code 167 53 = some (.aload_n 0, []) := kg_167_0 (i := 28) rfl
theorem kc_167_54 : xe_code 167 54 = some (.getfield 42, [0, 4, 373]) := kg_167_0 (i := 29) rfl
theorem kc_167_57 : xe_code 167 57 = some (.iload_n 1, []) := kg_167_0 (i := 30) rfl
theorem kc_167_58 : xe_code 167 58 = some (.iload_n 2, []) := kg_167_0 (i := 31) rfl
theorem kc_167_59 : xe_code 167 59 = some (.iload_n 3, []) := kg_167_0 (i := 32) rfl
theorem kc_167_60 : xe_code 167 60 = some (.iload 4, []) := kg_167_0 (i := 33) rfl
theorem kc_167_62 : xe_code 167 62 = some (.invokevirtual 262, [168, 4, 762, 2]) := kg_167_0 (i := 34) rfl
theorem kc_167_65 : xe_code 167 65 = some (.ireturn, []) := kg_167_0 (i := 35) rfl
theorem kc_168_0 : xe_code 168 0 = some (.iload_n 1, []) := kg_168_0 (i := 0) rfl
theorem kc_168_1 : xe_code 168 1 = some (.ifCond .lt 9, [10]) := kg_168_0 (i := 1) rfl
theorem kc_168_4 : xe_code 168 4 = some (.iload_n 1, []) := kg_168_0 (i := 2) rfl
theorem kc_168_5 : xe_code 168 5 = some (.bipush 24, []) := kg_168_0 (i := 3) rfl
theorem kc_168_7 : xe_code 168 7 = some (.if_icmp .lt 5, [12]) := kg_168_0 (i := 4) rfl
theorem kc_168_10 : xe_code 168 10 = some (.iconst 2, []) := kg_168_0 (i := 5) rfl
theorem kc_168_11 : xe_code 168 11 = some (.ireturn, []) := kg_168_0 (i := 6) rfl
theorem kc_168_12 : xe_code 168 12 = some (.aload_n 0, []) := kg_168_0 (i := 7) rfl
theorem kc_168_13 : xe_code 168 13 = some (.getfield 18, [2, 2, 295]) := kg_168_0 (i := 8) rfl
theorem kc_168_16 : xe_code 168 16 = some (.iload_n 1, []) := kg_168_0 (i := 9) rfl
theorem kc_168_17 : xe_code 168 17 = some (.iaload, []) := kg_168_0 (i := 10) rfl
theorem kc_168_18 : xe_code 168 18 = some (.istore 5, []) := kg_168_0 (i := 11) rfl
theorem kc_168_20 : xe_code 168 20 = some (.aload_n 0, []) := kg_168_0 (i := 12) rfl
theorem kc_168_21 : xe_code 168 21 = some (.getfield 9, [2, 0, 293]) := kg_168_0 (i := 13) rfl
theorem kc_168_24 : xe_code 168 24 = some (.iload_n 1, []) := kg_168_0 (i := 14) rfl
theorem kc_168_25 : xe_code 168 25 = some (.iload_n 2, []) := kg_168_0 (i := 15) rfl
theorem kc_168_26 : xe_code 168 26 = some (.iastore, []) := kg_168_0 (i := 16) rfl
theorem kc_168_27 : xe_code 168 27 = some (.aload_n 0, []) := kg_168_0 (i := 17) rfl
theorem kc_168_28 : xe_code 168 28 = some (.getfield 15, [2, 1, 294]) := kg_168_0 (i := 18) rfl
theorem kc_168_31 : xe_code 168 31 = some (.iload_n 1, []) := kg_168_0 (i := 19) rfl
theorem kc_168_32 : xe_code 168 32 = some (.iload_n 3, []) := kg_168_0 (i := 20) rfl
theorem kc_168_33 : xe_code 168 33 = some (.iastore, []) := kg_168_0 (i := 21) rfl
theorem kc_168_34 : xe_code 168 34 = some (.aload_n 0, []) := kg_168_0 (i := 22) rfl
theorem kc_168_35 : xe_code 168 35 = some (.getfield 18, [2, 2, 295]) := kg_168_0 (i := 23) rfl
theorem kc_168_38 : xe_code 168 38 = some (.iload_n 1, []) := kg_168_0 (i := 24) rfl
theorem kc_168_39 : xe_code 168 39 = some (.iload 4, []) := kg_168_0 (i := 25) rfl
theorem kc_168_41 : xe_code 168 41 = some (.iastore, []) := kg_168_0 (i := 26) rfl
theorem kc_168_42 : xe_code 168 42 = some (.iload 5, []) := kg_168_0 (i := 27) rfl
theorem kc_168_44 : xe_code 168 44 = some (.ireturn, []) := kg_168_0 (i := 28) rfl
theorem kc_169_0 : xe_code 169 0 = some (.aload_n 0, []) := kg_169_0 (i := 0) rfl
theorem kc_169_1 : xe_code 169 1 = some (.getfield 42, [0, 4, 373]) := kg_169_0 (i := 1) rfl
theorem kc_169_4 : xe_code 169 4 = some (.invokevirtual 264, [170, 0, 770, 2]) := kg_169_0 (i := 2) rfl
theorem kc_169_7 : xe_code 169 7 = some (.ireturn, []) := kg_169_0 (i := 3) rfl
theorem kc_170_0 : xe_code 170 0 = some (.iconst 0, []) := kg_170_0 (i := 0) rfl
theorem kc_170_1 : xe_code 170 1 = some (.istore_n 1, []) := kg_170_0 (i := 1) rfl
theorem kc_170_2 : xe_code 170 2 = some (.iconst 0, []) := kg_170_0 (i := 2) rfl
theorem kc_170_3 : xe_code 170 3 = some (.istore_n 2, []) := kg_170_0 (i := 3) rfl
theorem kc_170_4 : xe_code 170 4 = some (.iload_n 2, []) := kg_170_0 (i := 4) rfl
theorem kc_170_5 : xe_code 170 5 = some (.bipush 24, []) := kg_170_0 (i := 5) rfl
theorem kc_170_7 : xe_code 170 7 = some (.if_icmp .ge 54, [61]) := kg_170_0 (i := 6) rfl
theorem kc_170_10 : xe_code 170 10 = some (.iconst 0, []) := kg_170_0 (i := 7) rfl
theorem kc_170_11 : xe_code 170 11 = some (.istore_n 3, []) := kg_170_0 (i := 8) rfl
theorem kc_170_12 : xe_code 170 12 = some (.iload_n 3, []) := kg_170_0 (i := 9) rfl
theorem kc_170_13 : xe_code 170 13 = some (.iload_n 2, []) := kg_170_0 (i := 10) rfl
theorem kc_170_14 : xe_code 170 14 = some (.if_icmp .ge 41, [55]) := kg_170_0 (i := 11) rfl
theorem kc_170_17 : xe_code 170 17 = some (.aload_n 0, []) := kg_170_0 (i := 12) rfl
theorem kc_170_18 : xe_code 170 18 = some (.getfield 18, [2, 2, 295]) := kg_170_0 (i := 13) rfl
theorem kc_170_21 : xe_code 170 21 = some (.iload_n 2, []) := kg_170_0 (i := 14) rfl
theorem kc_170_22 : xe_code 170 22 = some (.iaload, []) := kg_170_0 (i := 15) rfl
theorem kc_170_23 : xe_code 170 23 = some (.iconst 1, []) := kg_170_0 (i := 16) rfl
theorem kc_170_24 : xe_code 170 24 = some (.if_icmp .ne 25, [49]) := kg_170_0 (i := 17) rfl
theorem kc_170_27 : xe_code 170 27 = some (.aload_n 0, []) := kg_170_0 (i := 18) rfl
theorem kc_170_28 : xe_code 170 28 = some (.getfield 18, [2, 2, 295]) := kg_170_0 (i := 19) rfl
theorem kc_170_31 : xe_code 170 31 = some (.iload_n 3, []) := kg_170_0 (i := 20) rfl
theorem kc_170_32 : xe_code 170 32 = some (.iaload, []) := kg_170_0 (i := 21) rfl
theorem kc_170_33 : xe_code 170 33 = some (.iconst 1, []) := kg_170_0 (i := 22) rfl
theorem kc_170_34 : xe_code 170 34 = some (.if_icmp .ne 15, [49]) := kg_170_0 (i := 23) rfl
theorem kc_170_37 : xe_code 170 37 = some (.aload_n 0, []) := kg_170_0 (i := 24) rfl
theorem kc_170_38 : xe_code 170 38 = some (.iload_n 2, []) := kg_170_0 (i := 25) rfl
theorem kc_170_39 : xe_code 170 39 = some (.iload_n 3, []) := kg_170_0 (i := 26) rfl
theorem kc_170_40 : xe_code 170 40 = some (.invokevirtual 30, [171, 2, 774, 2]) := kg_170_0 (i := 27) rfl
theorem kc_170_43 : xe_code 170 43 = some (.ifCond .eq 6, [49]) := kg_170_0 (i := 28) rfl
theorem kc_170_46 : xe_code 170 46 = some (.iinc 1 1, []) := kg_170_0 (i := 29) rfl
theorem kc_170_49 : xe_code 170 49 = some (.iinc 3 1, []) := kg_170_0 (i := 30) rfl
theorem kc_170_52 : xe_code 170 52 = some (.goto (-40), [12]) := kg_170_0 (i := 31) rfl
theorem kc_170_55 : xe_code 170 55 = some (.iinc 2 1, []) := kg_170_0 (i := 32) rfl
theorem kc_170_58 : xe_code 170 58 = some (.goto (-54), [4]) := kg_170_0 (i := 33) rfl
theorem kc_170_61 : xe_code 170 61 = some (.iload_n 1, []) := kg_170_0 (i := 34) rfl
theorem kc_170_62 : xe_code 170 62 = some (.ireturn, []) := kg_170_0 (i := 35) rfl
theorem kc_171_0 : xe_code 171 0 = some (.aload_n 0, []) := kg_171_0 (i := 0) rfl
theorem kc_171_1 : xe_code 171 1 = some (.getfield 9, [2, 0, 293]) := kg_171_0 (i := 1) rfl
theorem kc_171_4 : xe_code 171 4 = some (.iload_n 1, []) := kg_171_0 (i := 2) rfl
theorem kc_171_5 : xe_code 171 5 = some (.iaload, []) := kg_171_0 (i := 3) rfl
theorem kc_171_6 : xe_code 171 6 = some (.aload_n 0, []) := kg_171_0 (i := 4) rfl
theorem kc_171_7 : xe_code 171 7 = some (.getfield 9, [2, 0, 293]) := kg_171_0 (i := 5) rfl
theorem kc_171_10 : xe_code 171 10 = some (.iload_n 2, []) := kg_171_0 (i := 6) rfl
theorem kc_171_11 : xe_code 171 11 = some (.iaload, []) := kg_171_0 (i := 7) rfl
theorem kc_171_12 : xe_code 171 12 = some (.isub, []) := kg_171_0 (i := 8) rfl
theorem kc_171_13 : xe_code 171 13 = some (.invokestatic 47, [2, 1, 778, 0]) := kg_171_0 (i := 9) rfl
theorem kc_171_16 : xe_code 171 16 = some (.istore_n 3, []) := kg_171_0 (i := 10) rfl
theorem kc_171_17 : xe_code 171 17 = some (.aload_n 0, []) := kg_171_0 (i := 11) rfl
theorem kc_171_18 : xe_code 171 18 = some (.getfield 15, [2, 1, 294]) := kg_171_0 (i := 12) rfl
theorem kc_171_21 : xe_code 171 21 = some (.iload_n 1, []) := kg_171_0 (i := 13) rfl
theorem kc_171_22 : xe_code 171 22 = some (.iaload, []) := kg_171_0 (i := 14) rfl
theorem kc_171_23 : xe_code 171 23 = some (.aload_n 0, []) := kg_171_0 (i := 15) rfl
theorem kc_171_24 : xe_code 171 24 = some (.getfield 15, [2, 1, 294]) := kg_171_0 (i := 16) rfl
theorem kc_171_27 : xe_code 171 27 = some (.iload_n 2, []) := kg_171_0 (i := 17) rfl
theorem kc_171_28 : xe_code 171 28 = some (.iaload, []) := kg_171_0 (i := 18) rfl
theorem kc_171_29 : xe_code 171 29 = some (.isub, []) := kg_171_0 (i := 19) rfl
theorem kc_171_30 : xe_code 171 30 = some (.invokestatic 47, [2, 1, 778, 0]) := kg_171_0 (i := 20) rfl
theorem kc_171_33 : xe_code 171 33 = some (.istore 4, []) := kg_171_0 (i := 21) rfl
theorem kc_171_35 : xe_code 171 35 = some (.iload_n 3, []) := kg_171_0 (i := 22) rfl
theorem kc_171_36 : xe_code 171 36 = some (.iload 4, []) := kg_171_0 (i := 23) rfl
theorem kc_171_38 : xe_code 171 38 = some (.iadd, []) := kg_171_0 (i := 24) rfl
theorem kc_171_39 : xe_code 171 39 = some (.iconst 1, []) := kg_171_0 (i := 25) rfl
theorem kc_171_40 : xe_code 171 40 = some (.if_icmp .ne 7, [47]) := kg_171_0 (i := 26) rfl
theorem kc_171_43 : xe_code 171 43 = some (.iconst 1, []) := kg_171_0 (i := 27) rfl
theorem kc_171_44 : xe_code 171 44 = some (.goto 4, [48]) := kg_171_0 (i := 28) rfl
theorem kc_171_47 : xe_code 171 47 = some (.iconst 0, []) := kg_171_0 (i := 29) rfl
theorem kc_171_48 : xe_code 171 48 = some (.ireturn, []) := kg_171_0 (i := 30) rfl
theorem kc_172_0 : xe_code 172 0 = some (.iload_n 1, []) := kg_172_0 (i := 0) rfl
theorem kc_172_1 : xe_code 172 1 = some (.ifCond .eq 15, [16]) := kg_172_0 (i := 1) rfl
theorem kc_172_4 : xe_code 172 4 = some (.iload_n 1, []) := kg_172_0 (i := 2) rfl
theorem kc_172_5 : xe_code 172 5 = some (.iconst 1, []) := kg_172_0 (i := 3) rfl
theorem kc_172_6 : xe_code 172 6 = some (.if_icmp .eq 10, [16]) := kg_172_0 (i := 4) rfl
theorem kc_172_9 : xe_code 172 9 = some (.aload_n 0, []) := kg_172_0 (i := 5) rfl
theorem kc_172_10 : xe_code 172 10 = some (.bipush (-2), []) := kg_172_0 (i := 6) rfl
theorem kc_172_12 : xe_code 172 12 = some (.invokevirtual 72, [90, 1, 407, 0]) := kg_172_0 (i := 7) rfl
theorem kc_172_15 : xe_code 172 15 = some (.ireturn, []) := kg_172_0 (i := 8) rfl
theorem kc_172_16 : xe_code 172 16 = some (.aload_n 0, []) := kg_172_0 (i := 9) rfl
theorem kc_172_17 : xe_code 172 17 = some (.getfield 42, [0, 4, 373]) := kg_172_0 (i := 10) rfl
theorem kc_172_20 : xe_code 172 20 = some (.invokevirtual 267, [173, 0, 783, 2]) := kg_172_0 (i := 11) rfl
theorem kc_172_23 : xe_code 172 23 = some (.bipush 16, []) := kg_172_0 (i := 12) rfl
theorem kc_172_25 : xe_code 172 25 = some (.if_icmp .le 10, [35]) := kg_172_0 (i := 13) rfl
theorem kc_172_28 : xe_code 172 28 = some (.aload_n 0, []) := kg_172_0 (i := 14) rfl
theorem kc_172_29 : xe_code 172 29 = some (.bipush (-6), []) := kg_172_0 (i := 15) rfl
theorem kc_172_31 : xe_code 172 31 = some (.invokevirtual 72, [90, 1, 407, 0]) := kg_172_0 (i := 16) rfl
theorem kc_172_34 : xe_code 172 34 = some (.ireturn, []) := kg_172_0 (i := 17) rfl
theorem kc_172_35 : xe_code 172 35 = some (.aload_n 0, []) := kg_172_0 (i := 18) rfl
theorem kc_172_36 : xe_code 172 36 = some (.getfield 42, [0, 4, 373]) := kg_172_0 (i := 19) rfl
theorem kc_172_39 : xe_code 172 39 = some (.iload_n 1, []) := kg_172_0 (i := 20) rfl
theorem kc_172_40 : xe_code 172 40 = some (.ifCond .ne 13, [53]) := kg_172_0 (i := 21) rfl
theorem kc_172_43 : xe_code 172 43 = some (.aload_n 0, []) := kg_172_0 (i := 22) rfl
theorem kc_172_44 : xe_code 172 44 = some (.getfield 42, [0, 4, 373]) := kg_172_0 (i := 23) rfl
theorem kc_172_47 : xe_code 172 47 = some (.invokevirtual 264, [170, 0, 770, 2]) := kg_172_0 (i := 24) rfl
theorem kc_172_50 : xe_code 172 50 = some (.goto 4, [54]) := kg_172_0 (i := 25) rfl
theorem kc_172_53 : xe_code 172 53 = some (.iconst 0, []) := kg_172_0 (i := 26) rfl
theorem kc_172_54 : xe_code 172 54 = some (.invokevirtual 270, [174, 1, 787, 2]) := kg_172_0 (i := 27) rfl
theorem kc_172_57 : xe_code 172 57 = some (.ireturn, []) := kg_172_0 (i := 28) rfl
theorem kc_173_0 : xe_code 173 0 = some (.iconst 0, []) := kg_173_0 (i := 0) rfl
theorem kc_173_1 : xe_code 173 1 = some (.istore_n 1, []) := kg_173_0 (i := 1) rfl
theorem kc_173_2 : xe_code 173 2 = some (.iconst 0, []) := kg_173_0 (i := 2) rfl
theorem kc_173_3 : xe_code 173 3 = some (.istore_n 2, []) := kg_173_0 (i := 3) rfl
theorem kc_173_4 : xe_code 173 4 = some (.iload_n 2, []) := kg_173_0 (i := 4) rfl
theorem kc_173_5 : xe_code 173 5 = some (.bipush 24, []) := kg_173_0 (i := 5) rfl
theorem kc_173_7 : xe_code 173 7 = some (.if_icmp .ge 27, [34]) := kg_173_0 (i := 6) rfl
theorem kc_173_10 : xe_code 173 10 = some (.iload_n 1, []) := kg_173_0 (i := 7) rfl
theorem kc_173_11 : xe_code 173 11 = some (.aload_n 0, []) := kg_173_0 (i := 8) rfl
theorem kc_173_12 : xe_code 173 12 = some (.getfield 18, [2, 2, 295]) := kg_173_0 (i := 9) rfl
theorem kc_173_15 : xe_code 173 15 = some (.iload_n 2, []) := kg_173_0 (i := 10) rfl
theorem kc_173_16 : xe_code 173 16 = some (.iaload, []) := kg_173_0 (i := 11) rfl
theorem kc_173_17 : xe_code 173 17 = some (.iconst 2, []) := kg_173_0 (i := 12) rfl
theorem kc_173_18 : xe_code 173 18 = some (.if_icmp .ne 7, [25]) := kg_173_0 (i := 13) rfl
theorem kc_173_21 : xe_code 173 21 = some (.iconst 0, []) := kg_173_0 (i := 14) rfl
theorem kc_173_22 : xe_code 173 22 = some (.goto 4, [26]) := kg_173_0 (i := 15) rfl
theorem kc_173_25 : xe_code 173 25 = some (.iconst 1, []) := kg_173_0 (i := 16) rfl
theorem kc_173_26 : xe_code 173 26 = some (.iadd, []) := kg_173_0 (i := 17) rfl
theorem kc_173_27 : xe_code 173 27 = some (.istore_n 1, []) := kg_173_0 (i := 18) rfl
theorem kc_173_28 : xe_code 173 28 = some (.iinc 2 1, []) := kg_173_0 (i := 19) rfl
theorem kc_173_31 : xe_code 173 31 = some (.goto (-27), [4]) := kg_173_0 (i := 20) rfl
theorem kc_173_34 : xe_code 173 34 = some (.iload_n 1, []) := kg_173_0 (i := 21) rfl
theorem kc_173_35 : xe_code 173 35 = some (.ireturn, []) := kg_173_0 (i := 22) rfl
theorem kc_174_0 : xe_code 174 0 = some (.iconst 0, []) := kg_174_0 (i := 0) rfl
theorem kc_174_1 : xe_code 174 1 = some (.istore_n 2, []) := kg_174_0 (i := 1) rfl
theorem kc_174_2 : xe_code 174 2 = some (.iconst 0, []) := kg_174_0 (i := 2) rfl
theorem kc_174_3 : xe_code 174 3 = some (.istore_n 3, []) := kg_174_0 (i := 3) rfl
theorem kc_174_4 : xe_code 174 4 = some (.iconst 0, []) := kg_174_0 (i := 4) rfl
theorem kc_174_5 : xe_code 174 5 = some (.istore 4, []) := kg_174_0 (i := 5) rfl
theorem kc_174_7 : xe_code 174 7 = some (.iload 4, []) := kg_174_0 (i := 6) rfl
theorem kc_174_9 : xe_code 174 9 = some (.bipush 24, []) := kg_174_0 (i := 7) rfl
theorem kc_174_11 : xe_code 174 11 = some (.if_icmp .ge 51, [62]) := kg_174_0 (i := 8) rfl
theorem kc_174_14 : xe_code 174 14 = some (.aload_n 0, []) := kg_174_0 (i := 9) rfl
theorem kc_174_15 : xe_code 174 15 = some (.getfield 18, [2, 2, 295]) := kg_174_0 (i := 10) rfl
theorem kc_174_18 : xe_code 174 18 = some (.iload 4, []) := kg_174_0 (i := 11) rfl
theorem kc_174_20 : xe_code 174 20 = some (.iaload, []) := kg_174_0 (i := 12) rfl
theorem kc_174_21 : xe_code 174 21 = some (.iconst 2, []) := kg_174_0 (i := 13) rfl
theorem kc_174_22 : xe_code 174 22 = some (.if_icmp .eq 34, [56]) := kg_174_0 (i := 14) rfl
theorem kc_174_25 : xe_code 174 25 = some (.iload_n 2, []) := kg_174_0 (i := 15) rfl
theorem kc_174_26 : xe_code 174 26 = some (.bipush 16, []) := kg_174_0 (i := 16) rfl
theorem kc_174_28 : xe_code 174 28 = some (.if_icmp .ge 28, [56]) := kg_174_0 (i := 17) rfl
theorem kc_174_31 : xe_code 174 31 = some (.aload_n 0, []) := kg_174_0 (i := 18) rfl
theorem kc_174_32 : xe_code 174 32 = some (.getfield 21, [2, 3, 296]) := kg_174_0 (i := 19) rfl
theorem kc_174_35 : xe_code 174 35 = some (.iload_n 2, []) := kg_174_0 (i := 20) rfl
theorem kc_174_36 : xe_code 174 36 = some (.aload_n 0, []) := kg_174_0 (i := 21) rfl
theorem kc_174_37 : xe_code 174 37 = some (.iload 4, []) := kg_174_0 (i := 22) rfl
theorem kc_174_39 : xe_code 174 39 = some (.invokevirtual 34, [175, 1, 791, 2]) := kg_174_0 (i := 23) rfl
theorem kc_174_42 : xe_code 174 42 = some (.iastore, []) := kg_174_0 (i := 24) rfl
theorem kc_174_43 : xe_code 174 43 = some (.iinc 2 1, []) := kg_174_0 (i := 25) rfl
theorem kc_174_46 : xe_code 174 46 = some (.iload_n 3, []) := kg_174_0 (i := 26) rfl
theorem kc_174_47 : xe_code 174 47 = some (.aload_n 0, []) := kg_174_0 (i := 27) rfl
theorem kc_174_48 : xe_code 174 48 = some (.getfield 18, [2, 2, 295]) := kg_174_0 (i := 28) rfl
theorem kc_174_51 : xe_code 174 51 = some (.iload 4, []) := kg_174_0 (i := 29) rfl
theorem kc_174_53 : xe_code 174 53 = some (.iaload, []) := kg_174_0 (i := 30) rfl
theorem kc_174_54 : xe_code 174 54 = some (.iadd, []) := kg_174_0 (i := 31) rfl
theorem kc_174_55 : xe_code 174 55 = some (.istore_n 3, []) := kg_174_0 (i := 32) rfl
theorem kc_174_56 : xe_code 174 56 = some (.iinc 4 1, []) := kg_174_0 (i := 33) rfl
theorem kc_174_59 : xe_code 174 59 = some (.goto (-52), [7]) := kg_174_0 (i := 34) rfl
theorem kc_174_62 : xe_code 174 62 = some (.aload_n 0, []) := kg_174_0 (i := 35) rfl
theorem kc_174_63 : xe_code 174 63 = some (.iconst 0, []) := kg_174_0 (i := 36) rfl
theorem kc_174_64 : xe_code 174 64 = some (.iload_n 2, []) := kg_174_0 (i := 37) rfl
theorem kc_174_65 : xe_code 174 65 = some (.iload_n 3, []) := kg_174_0 (i := 38) rfl
theorem kc_174_66 : xe_code 174 66 = some (.iconst 0, []) := kg_174_0 (i := 39) rfl
theorem kc_174_67 : xe_code 174 67 = some (.iload_n 1, []) := kg_174_0 (i := 40) rfl
theorem kc_174_68 : xe_code 174 68 = some (.invokevirtual 38, [176, 5, 795, 2]) := kg_174_0 (i := 41) rfl
theorem kc_174_71 : xe_code 174 71 = some (.ireturn, []) := kg_174_0 (i := 42) rfl
theorem kc_175_0 : xe_code 175 0 = some (.iconst 0, []) := kg_175_0 (i := 0) rfl
theorem kc_175_1 : xe_code 175 1 = some (.istore_n 2, []) := kg_175_0 (i := 1) rfl
theorem kc_175_2 : xe_code 175 2 = some (.iconst 0, []) := kg_175_0 (i := 2) rfl
theorem kc_175_3 : xe_code 175 3 = some (.istore_n 3, []) := kg_175_0 (i := 3) rfl
theorem kc_175_4 : xe_code 175 4 = some (.iconst 0, []) := kg_175_0 (i := 4) rfl
theorem kc_175_5 : xe_code 175 5 = some (.istore 4, []) := kg_175_0 (i := 5) rfl
theorem kc_175_7 : xe_code 175 7 = some (.iload 4, []) := kg_175_0 (i := 6) rfl
theorem kc_175_9 : xe_code 175 9 = some (.iload_n 1, []) := kg_175_0 (i := 7) rfl
theorem kc_175_10 : xe_code 175 10 = some (.if_icmp .ge 46, [56]) := kg_175_0 (i := 8) rfl
theorem kc_175_13 : xe_code 175 13 = some (.iload 4, []) := kg_175_0 (i := 9) rfl
theorem kc_175_15 : xe_code 175 15 = some (.bipush 24, []) := kg_175_0 (i := 10) rfl
theorem kc_175_17 : xe_code 175 17 = some (.if_icmp .ge 39, [56]) := kg_175_0 (i := 11) rfl
theorem kc_175_20 : xe_code 175 20 = some (.aload_n 0, []) := kg_175_0 (i := 12) rfl
theorem kc_175_21 : xe_code 175 21 = some (.getfield 18, [2, 2, 295]) := kg_175_0 (i := 13) rfl
theorem kc_175_24 : xe_code 175 24 = some (.iload 4, []) := kg_175_0 (i := 14) rfl
theorem kc_175_26 : xe_code 175 26 = some (.iaload, []) := kg_175_0 (i := 15) rfl
theorem kc_175_27 : xe_code 175 27 = some (.iconst 2, []) := kg_175_0 (i := 16) rfl
theorem kc_175_28 : xe_code 175 28 = some (.if_icmp .eq 22, [50]) := kg_175_0 (i := 17) rfl
theorem kc_175_31 : xe_code 175 31 = some (.aload_n 0, []) := kg_175_0 (i := 18) rfl
theorem kc_175_32 : xe_code 175 32 = some (.iload 4, []) := kg_175_0 (i := 19) rfl
theorem kc_175_34 : xe_code 175 34 = some (.iload_n 1, []) := kg_175_0 (i := 20) rfl
theorem kc_175_35 : xe_code 175 35 = some (.invokevirtual 30, [171, 2, 774, 2]) := kg_175_0 (i := 21) rfl
theorem kc_175_38 : xe_code 175 38 = some (.ifCond .eq 9, [47]) := kg_175_0 (i := 22) rfl
theorem kc_175_41 : xe_code 175 41 = some (.iload_n 2, []) := kg_175_0 (i := 23) rfl
theorem kc_175_42 : xe_code 175 42 = some (.iconst 1, []) := kg_175_0 (i := 24) rfl
theorem kc_175_43 : xe_code 175 43 = some (.iload_n 3, []) := kg_175_0 (i := 25) rfl
theorem kc_175_44 : xe_code 175 44 = some (.ishl, []) := kg_175_0 (i := 26) rfl
theorem kc_175_45 : xe_code 175 45 = some (.ior, []) := kg_175_0 (i := 27) rfl
theorem kc_175_46 : xe_code 175 46 = some (.istore_n 2, []) := kg_175_0 (i := 28) rfl
theorem kc_175_47 : xe_code 175 47 = some (.iinc 3 1, []) := kg_175_0 (i := 29) rfl
theorem kc_175_50 : xe_code 175 50 = some (.iinc 4 1, []) := kg_175_0 (i := 30) rfl
theorem kc_175_53 : xe_code 175 53 = some (.goto (-46), [7]) := kg_175_0 (i := 31) rfl
theorem kc_175_56 : xe_code 175 56 = some (.iload_n 2, []) := kg_175_0 (i := 32) rfl
theorem kc_175_57 : xe_code 175 57 = some (.ireturn, []) := kg_175_0 (i := 33) rfl
theorem kc_176_0 : xe_code 176 0 = some (.iload_n 3, []) := kg_176_0 (i := 0) rfl
theorem kc_176_1 : xe_code 176 1 = some (.ifCond .ne 14, [15]) := kg_176_0 (i := 1) rfl
theorem kc_176_4 : xe_code 176 4 = some (.iload 5, []) := kg_176_0 (i := 2) rfl
theorem kc_176_6 : xe_code 176 6 = some (.ifCond .gt 7, [13]) := kg_176_0 (i := 3) rfl
theorem kc_176_9 : xe_code 176 9 = some (.iconst 1, []) := kg_176_0 (i := 4) rfl
theorem kc_176_10 : xe_code 176 10 = some (.goto 4, [14]) := kg_176_0 (i := 5) rfl
theorem kc_176_13 : xe_code 176 13 = some (.iconst 0, []) := kg_176_0 (i := 6) rfl
theorem kc_176_14 : xe_code 176 14 = some (.ireturn, []) := kg_176_0 (i := 7) rfl
theorem kc_176_15 : xe_code 176 15 = some (.iconst 0, []) := kg_176_0 (i := 8) rfl
theorem kc_176_16 : xe_code 176 16 = some (.istore 6, []) := kg_176_0 (i := 9) rfl
theorem kc_176_18 : xe_code 176 18 = some (.iload_n 1, []) := kg_176_0 (i := 10) rfl
theorem kc_176_19 : xe_code 176 19 = some (.istore 7, []) := kg_176_0 (i := 11) rfl
theorem kc_176_21 : xe_code 176 21 = some (.iload 7, []) := kg_176_0 (i := 12) rfl
theorem kc_176_23 : xe_code 176 23 = some (.iload_n 2, []) := kg_176_0 (i := 13) rfl
theorem kc_176_24 : xe_code 176 24 = some (.iload_n 3, []) := kg_176_0 (i := 14) rfl
theorem kc_176_25 : xe_code 176 25 = some (.isub, []) := kg_176_0 (i := 15) rfl
theorem kc_176_26 : xe_code 176 26 = some (.if_icmp .gt 60, [86]) := kg_176_0 (i := 16) rfl
theorem kc_176_29 : xe_code 176 29 = some (.iload 7, []) := kg_176_0 (i := 17) rfl
theorem kc_176_31 : xe_code 176 31 = some (.bipush 16, []) := kg_176_0 (i := 18) rfl
theorem kc_176_33 : xe_code 176 33 = some (.if_icmp .ge 53, [86]) := kg_176_0 (i := 19) rfl
theorem kc_176_36 : xe_code 176 36 = some (.aload_n 0, []) := kg_176_0 (i := 20) rfl
theorem kc_176_37 : xe_code 176 37 = some (.getfield 21, [2, 3, 296]) := kg_176_0 (i := 21) rfl
theorem kc_176_40 : xe_code 176 40 = some (.iload 7, []) := kg_176_0 (i := 22) rfl
theorem kc_176_42 : xe_code 176 42 = some (.iaload, []) := kg_176_0 (i := 23) rfl
theorem kc_176_43 : xe_code 176 43 = some (.iload 4, []) := kg_176_0 (i := 24) rfl
theorem kc_176_45 : xe_code 176 45 = some (.iand, []) := kg_176_0 (i := 25) rfl
theorem kc_176_46 : xe_code 176 46 = some (.invokestatic 42, [4, 1, 799, 0]) := kg_176_0 (i := 26) rfl
theorem kc_176_49 : xe_code 176 49 = some (.istore 8, []) := kg_176_0 (i := 27) rfl
theorem kc_176_51 : xe_code 176 51 = some (.iload 6, []) := kg_176_0 (i := 28) rfl
theorem kc_176_53 : xe_code 176 53 = some (.aload_n 0, []) := kg_176_0 (i := 29) rfl
theorem kc_176_54 : xe_code 176 54 = some (.iload 7, []) := kg_176_0 (i := 30) rfl
theorem kc_176_56 : xe_code 176 56 = some (.iconst 1, []) := kg_176_0 (i := 31) rfl
theorem kc_176_57 : xe_code 176 57 = some (.iadd, []) := kg_176_0 (i := 32) rfl
theorem kc_176_58 : xe_code 176 58 = some (.iload_n 2, []) := kg_176_0 (i := 33) rfl
theorem kc_176_59 : xe_code 176 59 = some (.iload_n 3, []) := kg_176_0 (i := 34) rfl
theorem kc_176_60 : xe_code 176 60 = some (.iconst 1, []) := kg_176_0 (i := 35) rfl
theorem kc_176_61 : xe_code 176 61 = some (.isub, []) := kg_176_0 (i := 36) rfl
theorem kc_176_62 : xe_code 176 62 = some (.iload 4, []) := kg_176_0 (i := 37) rfl
theorem kc_176_64 : xe_code 176 64 = some (.iconst 1, []) := kg_176_0 (i := 38) rfl
theorem kc_176_65 : xe_code 176 65 = some (.iload 7, []) := kg_176_0 (i := 39) rfl
theorem kc_176_67 : xe_code 176 67 = some (.ishl, []) := kg_176_0 (i := 40) rfl
theorem kc_176_68 : xe_code 176 68 = some (.ior, []) := kg_176_0 (i := 41) rfl
theorem kc_176_69 : xe_code 176 69 = some (.iload 5, []) := kg_176_0 (i := 42) rfl
theorem kc_176_71 : xe_code 176 71 = some (.iload 8, []) := kg_176_0 (i := 43) rfl
theorem kc_176_73 : xe_code 176 73 = some (.isub, []) := kg_176_0 (i := 44) rfl
theorem kc_176_74 : xe_code 176 74 = some (.invokevirtual 38, [176, 5, 795, 2]) := kg_176_0 (i := 45) rfl
theorem kc_176_77 : xe_code 176 77 = some (.iadd, []) := kg_176_0 (i := 46) rfl
theorem kc_176_78 : xe_code 176 78 = some (.istore 6, []) := kg_176_0 (i := 47) rfl
theorem kc_176_80 : xe_code 176 80 = some (.iinc 7 1, []) := kg_176_1 (i := 0) rfl
theorem kc_176_83 : xe_code 176 83 = some (.goto (-62), [21]) := kg_176_1 (i := 1) rfl
theorem kc_176_86 : xe_code 176 86 = some (.iload 6, []) := kg_176_1 (i := 2) rfl
theorem kc_176_88 : xe_code 176 88 = some (.ireturn, []) := kg_176_1 (i := 3) rfl
theorem kc_177_0 : xe_code 177 0 = some (.iload_n 2, []) := kg_177_0 (i := 0) rfl
theorem kc_177_1 : xe_code 177 1 = some (.invokestatic 171, [117, 1, 529, 0]) := kg_177_0 (i := 1) rfl
theorem kc_177_4 : xe_code 177 4 = some (.ifCond .eq 12, [16]) := kg_177_0 (i := 2) rfl
theorem kc_177_7 : xe_code 177 7 = some (.iload_n 3, []) := kg_177_0 (i := 3) rfl
theorem kc_177_8 : xe_code 177 8 = some (.ifCond .lt 8, [16]) := kg_177_0 (i := 4) rfl
theorem kc_177_11 : xe_code 177 11 = some (.iload_n 3, []) := kg_177_0 (i := 5) rfl
theorem kc_177_12 : xe_code 177 12 = some (.iconst 1, []) := kg_177_0 (i := 6) rfl
theorem kc_177_13 : xe_code 177 13 = some (.if_icmp .le 10, [23]) := kg_177_0 (i := 7) rfl
theorem kc_177_16 : xe_code 177 16 = some (.aload_n 0, []) := kg_177_0 (i := 8) rfl
theorem kc_177_17 : xe_code 177 17 = some (.bipush (-2), []) := kg_177_0 (i := 9) rfl
theorem kc_177_19 : xe_code 177 19 = some (.invokevirtual 72, [90, 1, 407, 0]) := kg_177_0 (i := 10) rfl
theorem kc_177_22 : xe_code 177 22 = some (.ireturn, []) := kg_177_0 (i := 11) rfl
theorem kc_177_23 : xe_code 177 23 = some (.iload_n 1, []) := kg_177_0 (i := 12) rfl
theorem kc_177_24 : xe_code 177 24 = some (.aload_n 0, []) := kg_177_0 (i := 13) rfl
theorem kc_177_25 : xe_code 177 25 = some (.getfield 148, [0, 9, 378]) := kg_177_0 (i := 14) rfl
theorem kc_177_28 : xe_code 177 28 = some (.bipush 24, []) := kg_177_0 (i := 15) rfl
theorem kc_177_30 : xe_code 177 30 = some (.idiv, []) := kg_177_0 (i := 16) rfl
theorem kc_177_31 : xe_code 177 31 = some (.if_icmp .lt 8, [39]) := kg_177_0 (i := 17) rfl
theorem kc_177_34 : xe_code 177 34 = some (.iload 4, []) := kg_177_0 (i := 18) rfl
theorem kc_177_36 : xe_code 177 36 = some (.ifCond .ge 10, [46]) := kg_177_0 (i := 19) rfl
theorem kc_177_39 : xe_code 177 39 = some (.aload_n 0, []) := kg_177_0 (i := 20) rfl
theorem kc_177_40 : xe_code 177 40 = some (.bipush (-4), []) := kg_177_0 (i := 21) rfl
theorem kc_177_42 : xe_code 177 42 = some (.invokevirtual 72, [90, 1, 407, 0]) := kg_177_0 (i := 22) rfl
theorem kc_177_45 : xe_code 177 45 = some (.ireturn, []) := kg_177_0 (i := 23) rfl
theorem kc_177_46 : xe_code 177 46 = some (.iload_n 1, []) := kg_177_0 (i := 24) rfl
theorem kc_177_47 : xe_code 177 47 = some (.bipush 25, []) := kg_177_0 (i := 25) rfl
theorem kc_177_49 : xe_code 177 49 = some (.if_icmp .gt 22, [71]) := kg_177_0 (i := 26) rfl
theorem kc_177_52 : xe_code 177 52 = some (.iload 4, []) := kg_177_0 (i := 27) rfl
theorem kc_177_54 : xe_code 177 54 = some (.bipush 99, []) := kg_177_0 (i := 28) rfl
theorem kc_177_56 : xe_code 177 56 = some (.if_icmp .gt 15, [71]) := kg_177_0 (i := 29) rfl
theorem kc_177_59 : xe_code 177 59 = some (.aload_n 0, []) := kg_177_0 (i := 30) rfl
theorem kc_177_60 : xe_code 177 60 = some (.getfield 49, [0, 5, 374]) := kg_177_0 (i := 31) rfl
theorem kc_177_63 : xe_code 177 63 = some (.getfield 273, [5, 8, 323]) := kg_177_0 (i := 32) rfl
theorem kc_177_66 : xe_code 177 66 = some (.bipush 12, []) := kg_177_0 (i := 33) rfl
theorem kc_177_68 : xe_code 177 68 = some (.if_icmp .lt 10, [78]) := kg_177_0 (i := 34) rfl
theorem kc_177_71 : xe_code 177 71 = some (.aload_n 0, []) := kg_177_0 (i := 35) rfl
theorem kc_177_72 : xe_code 177 72 = some (.bipush (-6), []) := kg_177_0 (i := 36) rfl
theorem kc_177_74 : xe_code 177 74 = some (.invokevirtual 72, [90, 1, 407, 0]) := kg_177_0 (i := 37) rfl
theorem kc_177_77 : xe_code 177 77 = some (.ireturn, []) := kg_177_0 (i := 38) rfl
theorem kc_177_78 : xe_code 177 78 = some (.aload_n 0, []) := kg_177_0 (i := 39) rfl
theorem kc_177_79 : xe_code 177 79 = some (.getfield 49, [0, 5, 374]) := kg_177_0 (i := 40) rfl
theorem kc_177_82 : xe_code 177 82 = some (.iload_n 1, []) := kg_177_0 (i := 41) rfl
theorem kc_177_83 : xe_code 177 83 = some (.iload_n 2, []) := kg_177_0 (i := 42) rfl
theorem kc_177_84 : xe_code 177 84 = some (.iload_n 3, []) := kg_177_0 (i := 43) rfl
theorem kc_177_85 : xe_code 177 85 = some (.iload 4, []) := kg_177_0 (i := 44) rfl
theorem kc_177_87 : xe_code 177 87 = some (.invokevirtual 274, [178, 4, 804, 5]) := kg_177_0 (i := 45) rfl
theorem kc_177_90 : xe_code 177 90 = some (.ireturn, []) := kg_177_0 (i := 46) rfl
theorem kc_178_0 : xe_code 178 0 = some (.aload_n 0, []) := kg_178_0 (i := 0) rfl
theorem kc_178_1 : xe_code 178 1 = some (.getfield 39, [5, 8, 322]) := kg_178_0 (i := 1) rfl
theorem kc_178_4 : xe_code 178 4 = some (.bipush 12, []) := kg_178_0 (i := 2) rfl
theorem kc_178_6 : xe_code 178 6 = some (.if_icmp .lt 6, [12]) := kg_178_0 (i := 3) rfl
theorem kc_178_9 : xe_code 178 9 = some (.bipush (-9), []) := kg_178_0 (i := 4) rfl
theorem kc_178_11 : xe_code 178 11 = some (.ireturn, []) := kg_178_0 (i := 5) rfl
theorem kc_178_12 : xe_code 178 12 = some (.aload_n 0, []) := kg_178_0 (i := 6) rfl
theorem kc_178_13 : xe_code 178 13 = some (.getfield 9, [5, 0, 313]) := kg_178_0 (i := 7) rfl
theorem kc_178_16 : xe_code 178 16 = some (.aload_n 0, []) := kg_178_0 (i := 8) rfl
theorem kc_178_17 : xe_code 178 17 = some (.getfield 39, [5, 8, 322]) := kg_178_0 (i := 9) rfl
theorem kc_178_20 : xe_code 178 20 = some (.iload_n 1, []) := kg_178_0 (i := 10) rfl
theorem kc_178_21 : xe_code 178 21 = some (.iastore, []) := kg_178_0 (i := 11) rfl
theorem kc_178_22 : xe_code 178 22 = some (.aload_n 0, []) := kg_178_0 (i := 12) rfl
theorem kc_178_23 : xe_code 178 23 = some (.getfield 15, [5, 1, 314]) := kg_178_0 (i := 13) rfl
theorem kc_178_26 : xe_code 178 26 = some (.aload_n 0, []) := kg_178_0 (i := 14) rfl
theorem kc_178_27 : xe_code 178 27 = some (.getfield 39, [5, 8, 322]) := kg_178_0 (i := 15) rfl
theorem kc_178_30 : xe_code 178 30 = some (.iload_n 2, []) := kg_178_0 (i := 16) rfl
theorem kc_178_31 : xe_code 178 31 = some (.iastore, []) := kg_178_0 (i := 17) rfl
theorem kc_178_32 : xe_code 178 32 = some (.aload_n 0, []) := kg_178_0 (i := 18) rfl
theorem kc_178_33 : xe_code 178 33 = some (.getfield 18, [5, 2, 315]) := kg_178_0 (i := 19) rfl
theorem kc_178_36 : xe_code 178 36 = some (.aload_n 0, []) := kg_178_0 (i := 20) rfl
theorem kc_178_37 : xe_code 178 37 = some (.getfield 39, [5, 8, 322]) := kg_178_0 (i := 21) rfl
theorem kc_178_40 : xe_code 178 40 = some (.iload_n 3, []) := kg_178_0 (i := 22) rfl
theorem kc_178_41 : xe_code 178 41 = some (.iastore, []) := kg_178_0 (i := 23) rfl
theorem kc_178_42 : xe_code 178 42 = some (.aload_n 0, []) := kg_178_0 (i := 24) rfl
theorem kc_178_43 : xe_code 178 43 = some (.getfield 21, [5, 3, 316]) := kg_178_0 (i := 25) rfl
theorem kc_178_46 : xe_code 178 46 = some (.aload_n 0, []) := kg_178_0 (i := 26) rfl
theorem kc_178_47 : xe_code 178 47 = some (.getfield 39, [5, 8, 322]) := kg_178_0 (i := 27) rfl
theorem kc_178_50 : xe_code 178 50 = some (.iload 4, []) := kg_178_0 (i := 28) rfl
theorem kc_178_52 : xe_code 178 52 = some (.iastore, []) := kg_178_0 (i := 29) rfl
theorem kc_178_53 : xe_code 178 53 = some (.aload_n 0, []) := kg_178_0 (i := 30) rfl
theorem kc_178_54 : xe_code 178 54 = some (.dup, []) := kg_178_0 (i := 31) rfl
theorem kc_178_55 : xe_code 178 55 = some (.getfield 39, [5, 8, 322]) := kg_178_0 (i := 32) rfl
theorem kc_178_58 : xe_code 178 58 = some (.iconst 1, []) := kg_178_0 (i := 33) rfl
theorem kc_178_59 : xe_code 178 59 = some (.iadd, []) := kg_178_0 (i := 34) rfl
theorem kc_178_60 : xe_code 178 60 = some (.putfield 39, [5, 8, 322]) := kg_178_0 (i := 35) rfl
theorem kc_178_63 : xe_code 178 63 = some (.aload_n 0, []) := kg_178_0 (i := 36) rfl
theorem kc_178_64 : xe_code 178 64 = some (.getfield 39, [5, 8, 322]) := kg_178_0 (i := 37) rfl
theorem kc_178_67 : xe_code 178 67 = some (.iconst 1, []) := kg_178_0 (i := 38) rfl
theorem kc_178_68 : xe_code 178 68 = some (.isub, []) := kg_178_0 (i := 39) rfl
theorem kc_178_69 : xe_code 178 69 = some (.ireturn, []) := kg_178_0 (i := 40) rfl
theorem kc_179_0 : xe_code 179 0 = some (.aload_n 0, []) := kg_179_0 (i := 0) rfl
theorem kc_179_1 : xe_code 179 1 = some (.getfield 49, [0, 5, 374]) := kg_179_0 (i := 1) rfl
theorem kc_179_4 : xe_code 179 4 = some (.getfield 275, [5, 7, 321]) := kg_179_0 (i := 2) rfl
theorem kc_179_7 : xe_code 179 7 = some (.iload_n 1, []) := kg_179_0 (i := 3) rfl
theorem kc_179_8 : xe_code 179 8 = some (.if_icmp .ne 5, [13]) := kg_179_0 (i := 4) rfl
theorem kc_179_11 : xe_code 179 11 = some (.iconst 0, []) := kg_179_0 (i := 5) rfl
theorem kc_179_12 : xe_code 179 12 = some (.ireturn, []) := kg_179_0 (i := 6) rfl
theorem kc_179_13 : xe_code 179 13 = some (.aload_n 0, []) := kg_179_0 (i := 7) rfl
theorem kc_179_14 : xe_code 179 14 = some (.getfield 49, [0, 5, 374]) := kg_179_0 (i := 8) rfl
theorem kc_179_17 : xe_code 179 17 = some (.iload_n 1, []) := kg_179_0 (i := 9) rfl
theorem kc_179_18 : xe_code 179 18 = some (.putfield 275, [5, 7, 321]) := kg_179_0 (i := 10) rfl
theorem kc_179_21 : xe_code 179 21 = some (.iconst 1, []) := kg_179_0 (i := 11) rfl
theorem kc_179_22 : xe_code 179 22 = some (.ireturn, []) := kg_179_0 (i := 12) rfl
theorem kc_180_0 : xe_code 180 0 = some (.iload_n 2, []) := kg_180_0 (i := 0) rfl
theorem kc_180_1 : xe_code 180 1 = some (.invokestatic 171, [117, 1, 529, 0]) := kg_180_0 (i := 1) rfl
theorem kc_180_4 : xe_code 180 4 = some (.ifCond .ne 10, [14]) := kg_180_0 (i := 2) rfl
theorem kc_180_7 : xe_code 180 7 = some (.aload_n 0, []) := kg_180_0 (i := 3) rfl
theorem kc_180_8 : xe_code 180 8 = some (.bipush (-2), []) := kg_180_0 (i := 4) rfl
theorem kc_180_10 : xe_code 180 10 = some (.invokevirtual 72, [90, 1, 407, 0]) := kg_180_0 (i := 5) rfl
theorem kc_180_13 : xe_code 180 13 = some (.ireturn, []) := kg_180_0 (i := 6) rfl
theorem kc_180_14 : xe_code 180 14 = some (.aload_n 0, []) := kg_180_0 (i := 7) rfl
theorem kc_180_15 : xe_code 180 15 = some (.getfield 49, [0, 5, 374]) := kg_180_0 (i := 8) rfl
theorem kc_180_18 : xe_code 180 18 = some (.iload_n 1, []) := kg_180_0 (i := 9) rfl
theorem kc_180_19 : xe_code 180 19 = some (.iload_n 2, []) := kg_180_0 (i := 10) rfl
theorem kc_180_20 : xe_code 180 20 = some (.iload_n 3, []) := kg_180_0 (i := 11) rfl
theorem kc_180_21 : xe_code 180 21 = some (.aload_n 0, []) := kg_180_0 (i := 12) rfl
theorem kc_180_22 : xe_code 180 22 = some (.getfield 148, [0, 9, 378]) := kg_180_0 (i := 13) rfl
theorem kc_180_25 : xe_code 180 25 = some (.invokevirtual 278, [181, 4, 816, 5]) := kg_180_0 (i := 14) rfl
theorem kc_180_28 : xe_code 180 28 = some (.iconst 1, []) := kg_180_0 (i := 15) rfl
theorem kc_180_29 : xe_code 180 29 = some (.ireturn, []) := kg_180_0 (i := 16) rfl
theorem kc_181_0 : xe_code 181 0 = some (.iload_n 2, []) := kg_181_0 (i := 0) rfl
theorem kc_181_1 : xe_code 181 1 = some (.invokestatic 43, [117, 1, 820, 0]) := kg_181_0 (i := 1) rfl
theorem kc_181_4 : xe_code 181 4 = some (.ifCond .ne 4, [8]) := kg_181_0 (i := 2) rfl
theorem kc_181_7 : xe_code 181 7 = some (.return_, []) := kg_181_0 (i := 3) rfl
theorem kc_181_8 : xe_code 181 8 = some (.iload_n 1, []) := kg_181_0 (i := 4) rfl
theorem kc_181_9 : xe_code 181 9 = some (.ifCond .eq 10, [19]) := kg_181_0 (i := 5) rfl
theorem kc_181_12 : xe_code 181 12 = some (.aload_n 0, []) := kg_181_0 (i := 6) rfl
theorem kc_181_13 : xe_code 181 13 = some (.getfield 27, [5, 5, 318]) := kg_181_0 (i := 7) rfl
theorem kc_181_16 : xe_code 181 16 = some (.goto 7, [23]) := kg_181_0 (i := 8) rfl
theorem kc_181_19 : xe_code 181 19 = some (.aload_n 0, []) := kg_181_0 (i := 9) rfl
theorem kc_181_20 : xe_code 181 20 = some (.getfield 24, [5, 4, 317]) := kg_181_0 (i := 10) rfl
theorem kc_181_23 : xe_code 181 23 = some (.astore 5, []) := kg_181_0 (i := 11) rfl
theorem kc_181_25 : xe_code 181 25 = some (.aload 5, []) := kg_181_0 (i := 12) rfl
theorem kc_181_27 : xe_code 181 27 = some (.iload_n 2, []) := kg_181_0 (i := 13) rfl
theorem kc_181_28 : xe_code 181 28 = some (.iload_n 3, []) := kg_181_0 (i := 14) rfl
theorem kc_181_29 : xe_code 181 29 = some (.ifCond .eq 7, [36]) := kg_181_0 (i := 15) rfl
theorem kc_181_32 : xe_code 181 32 = some (.iconst 1, []) := kg_181_0 (i := 16) rfl
theorem kc_181_33 : xe_code 181 33 = some (.goto 4, [37]) := kg_181_0 (i := 17) rfl
theorem kc_181_36 : xe_code 181 36 = some (.iconst 2, []) := kg_181_0 (i := 18) rfl
theorem kc_181_37 : xe_code 181 37 = some (.iastore, []) := kg_181_0 (i := 19) rfl
theorem kc_181_38 : xe_code 181 38 = some (.iload_n 3, []) := kg_181_0 (i := 20) rfl
theorem kc_181_39 : xe_code 181 39 = some (.ifCond .eq 11, [50]) := kg_181_0 (i := 21) rfl
theorem kc_181_42 : xe_code 181 42 = some (.aload_n 0, []) := kg_181_0 (i := 22) rfl
theorem kc_181_43 : xe_code 181 43 = some (.getfield 30, [5, 6, 319]) := kg_181_0 (i := 23) rfl
theorem kc_181_46 : xe_code 181 46 = some (.iload_n 2, []) := kg_181_0 (i := 24) rfl
theorem kc_181_47 : xe_code 181 47 = some (.iload 4, []) := kg_181_0 (i := 25) rfl
theorem kc_181_49 : xe_code 181 49 = some (.iastore, []) := kg_181_0 (i := 26) rfl
theorem kc_181_50 : xe_code 181 50 = some (.return_, []) := kg_181_0 (i := 27) rfl
theorem kc_182_0 : xe_code 182 0 = some (.iload_n 1, []) := kg_182_0 (i := 0) rfl
theorem kc_182_1 : xe_code 182 1 = some (.invokestatic 171, [117, 1, 529, 0]) := kg_182_0 (i := 1) rfl
theorem kc_182_4 : xe_code 182 4 = some (.ifCond .eq 12, [16]) := kg_182_0 (i := 2) rfl
theorem kc_182_7 : xe_code 182 7 = some (.iload_n 2, []) := kg_182_0 (i := 3) rfl
theorem kc_182_8 : xe_code 182 8 = some (.ifCond .eq 15, [23]) := kg_182_0 (i := 4) rfl
theorem kc_182_11 : xe_code 182 11 = some (.iload_n 2, []) := kg_182_0 (i := 5) rfl
theorem kc_182_12 : xe_code 182 12 = some (.iconst 1, []) := kg_182_0 (i := 6) rfl
theorem kc_182_13 : xe_code 182 13 = some (.if_icmp .eq 10, [23]) := kg_182_0 (i := 7) rfl
theorem kc_182_16 : xe_code 182 16 = some (.aload_n 0, []) := kg_182_0 (i := 8) rfl
theorem kc_182_17 : xe_code 182 17 = some (.bipush (-2), []) := kg_182_0 (i := 9) rfl
theorem kc_182_19 : xe_code 182 19 = some (.invokevirtual 72, [90, 1, 407, 0]) := kg_182_0 (i := 10) rfl
theorem kc_182_22 : xe_code 182 22 = some (.ireturn, []) := kg_182_0 (i := 11) rfl
theorem kc_182_23 : xe_code 182 23 = some (.aload_n 0, []) := kg_182_0 (i := 12) rfl
theorem kc_182_24 : xe_code 182 24 = some (.getfield 10, [0, 0, 369]) := kg_182_0 (i := 13) rfl
theorem kc_182_27 : xe_code 182 27 = some (.aload_n 0, []) := kg_182_0 (i := 14) rfl
theorem kc_182_28 : xe_code 182 28 = some (.getfield 28, [0, 2, 371]) := kg_182_0 (i := 15) rfl
theorem kc_182_31 : xe_code 182 31 = some (.invokevirtual 207, [145, 0, 648, 3]) := kg_182_0 (i := 16) rfl
theorem kc_182_34 : xe_code 182 34 = some (.iload_n 1, []) := kg_182_0 (i := 17) rfl
theorem kc_182_35 : xe_code 182 35 = some (.invokevirtual 282, [183, 2, 825, 4]) := kg_182_0 (i := 18) rfl
theorem kc_182_38 : xe_code 182 38 = some (.ifCond .ne 6, [44]) := kg_182_0 (i := 19) rfl
theorem kc_182_41 : xe_code 182 41 = some (.bipush (-9), []) := kg_182_0 (i := 20) rfl
theorem kc_182_43 : xe_code 182 43 = some (.ireturn, []) := kg_182_0 (i := 21) rfl
theorem kc_182_44 : xe_code 182 44 = some (.aload_n 0, []) := kg_182_0 (i := 22) rfl
theorem kc_182_45 : xe_code 182 45 = some (.getfield 49, [0, 5, 374]) := kg_182_0 (i := 23) rfl
theorem kc_182_48 : xe_code 182 48 = some (.iload_n 1, []) := kg_182_0 (i := 24) rfl
theorem kc_182_49 : xe_code 182 49 = some (.aload_n 0, []) := kg_182_0 (i := 25) rfl
theorem kc_182_50 : xe_code 182 50 = some (.getfield 148, [0, 9, 378]) := kg_182_0 (i := 26) rfl
theorem kc_182_53 : xe_code 182 53 = some (.invokevirtual 285, [184, 2, 829, 5]) := kg_182_0 (i := 27) rfl
theorem kc_182_56 : xe_code 182 56 = some (.istore_n 3, []) := kg_182_0 (i := 28) rfl
theorem kc_182_57 : xe_code 182 57 = some (.aload_n 0, []) := kg_182_0 (i := 29) rfl
theorem kc_182_58 : xe_code 182 58 = some (.getfield 49, [0, 5, 374]) := kg_182_0 (i := 30) rfl
theorem kc_182_61 : xe_code 182 61 = some (.iload_n 1, []) := kg_182_0 (i := 31) rfl
theorem kc_182_62 : xe_code 182 62 = some (.iload_n 3, []) := kg_182_0 (i := 32) rfl
theorem kc_182_63 : xe_code 182 63 = some (.invokevirtual 288, [185, 2, 833, 5]) := kg_182_0 (i := 33) rfl
theorem kc_182_66 : xe_code 182 66 = some (.istore 4, []) := kg_182_0 (i := 34) rfl
theorem kc_182_68 : xe_code 182 68 = some (.iload 4, []) := kg_182_0 (i := 35) rfl
theorem kc_182_70 : xe_code 182 70 = some (.bipush (-9), []) := kg_182_0 (i := 36) rfl
theorem kc_182_72 : xe_code 182 72 = some (.if_icmp .ne 6, [78]) := kg_182_0 (i := 37) rfl
theorem kc_182_75 : xe_code 182 75 = some (.bipush (-9), []) := kg_182_0 (i := 38) rfl
theorem kc_182_77 : xe_code 182 77 = some (.ireturn, []) := kg_182_0 (i := 39) rfl
theorem kc_182_78 : xe_code 182 78 = some (.iload_n 2, []) := kg_182_0 (i := 40) rfl
theorem kc_182_79 : xe_code 182 79 = some (.ifCond .ne 17, [96]) := kg_182_0 (i := 41) rfl
theorem kc_182_82 : xe_code 182 82 = some (.iload_n 3, []) := kg_182_0 (i := 42) rfl
theorem kc_182_83 : xe_code 182 83 = some (.aload_n 0, []) := kg_182_0 (i := 43) rfl
theorem kc_182_84 : xe_code 182 84 = some (.getfield 49, [0, 5, 374]) := kg_182_0 (i := 44) rfl
theorem kc_182_87 : xe_code 182 87 = some (.iload 4, []) := kg_182_0 (i := 45) rfl
theorem kc_182_89 : xe_code 182 89 = some (.invokevirtual 291, [186, 1, 837, 5]) := kg_182_0 (i := 46) rfl
theorem kc_182_92 : xe_code 182 92 = some (.iadd, []) := kg_182_0 (i := 47) rfl
theorem kc_182_93 : xe_code 182 93 = some (.goto 12, [105]) := kg_182_1 (i := 0) rfl
theorem kc_182_96 : xe_code 182 96 = some (.aload_n 0, []) := kg_182_1 (i := 1) rfl
theorem kc_182_97 : xe_code 182 97 = some (.getfield 49, [0, 5, 374]) := kg_182_1 (i := 2) rfl
theorem kc_182_100 : xe_code 182 100 = some (.iload 4, []) := kg_182_1 (i := 3) rfl
theorem kc_182_102 : xe_code 182 102 = some (.invokevirtual 294, [187, 1, 841, 5]) := kg_182_1 (i := 4) rfl
theorem kc_182_105 : xe_code 182 105 = some (.ireturn, []) := kg_182_1 (i := 5) rfl
theorem kc_183_0 : xe_code 183 0 = some (.iconst 0, []) := kg_183_0 (i := 0) rfl
theorem kc_183_1 : xe_code 183 1 = some (.istore_n 3, []) := kg_183_0 (i := 1) rfl
theorem kc_183_2 : xe_code 183 2 = some (.iload_n 3, []) := kg_183_0 (i := 2) rfl
theorem kc_183_3 : xe_code 183 3 = some (.aload_n 0, []) := kg_183_0 (i := 3) rfl
theorem kc_183_4 : xe_code 183 4 = some (.getfield 79, [4, 5, 177]) := kg_183_0 (i := 4) rfl
theorem kc_183_7 : xe_code 183 7 = some (.if_icmp .ge 38, [45]) := kg_183_0 (i := 5) rfl
theorem kc_183_10 : xe_code 183 10 = some (.iload_n 3, []) := kg_183_0 (i := 6) rfl
theorem kc_183_11 : xe_code 183 11 = some (.bipush 10, []) := kg_183_0 (i := 7) rfl
theorem kc_183_13 : xe_code 183 13 = some (.if_icmp .ge 32, [45]) := kg_183_0 (i := 8) rfl
theorem kc_183_16 : xe_code 183 16 = some (.iload_n 1, []) := kg_183_0 (i := 9) rfl
theorem kc_183_17 : xe_code 183 17 = some (.iload_n 3, []) := kg_183_0 (i := 10) rfl
theorem kc_183_18 : xe_code 183 18 = some (.ishr, []) := kg_183_0 (i := 11) rfl
theorem kc_183_19 : xe_code 183 19 = some (.iconst 1, []) := kg_183_0 (i := 12) rfl
theorem kc_183_20 : xe_code 183 20 = some (.iand, []) := kg_183_0 (i := 13) rfl
theorem kc_183_21 : xe_code 183 21 = some (.ifCond .eq 18, [39]) := kg_183_0 (i := 14) rfl
theorem kc_183_24 : xe_code 183 24 = some (.aload_n 0, []) := kg_183_0 (i := 15) rfl
theorem kc_183_25 : xe_code 183 25 = some (.getfield 25, [4, 2, 174]) := kg_183_0 (i := 16) rfl
theorem kc_183_28 : xe_code 183 28 = some (.iload_n 3, []) := kg_183_0 (i := 17) rfl
theorem kc_183_29 : xe_code 183 29 = some (.aaload, []) := kg_183_0 (i := 18) rfl
theorem kc_183_30 : xe_code 183 30 = some (.getfield 82, [1, 0, 157]) := kg_183_0 (i := 19) rfl
theorem kc_183_33 : xe_code 183 33 = some (.iload_n 2, []) := kg_183_0 (i := 20) rfl
theorem kc_183_34 : xe_code 183 34 = some (.if_icmp .ne 5, [39]) := kg_183_0 (i := 21) rfl
theorem kc_183_37 : xe_code 183 37 = some (.iconst 1, []) := kg_183_0 (i := 22) rfl
theorem kc_183_38 : xe_code 183 38 = some (.ireturn, []) := kg_183_0 (i := 23) rfl
theorem kc_183_39 : xe_code 183 39 = some (.iinc 3 1, []) := kg_183_0 (i := 24) rfl
theorem kc_183_42 : xe_code 183 42 = some (.goto (-40), [2]) := kg_183_0 (i := 25) rfl
theorem kc_183_45 : xe_code 183 45 = some (.iconst 0, []) := kg_183_0 (i := 26) rfl
theorem kc_183_46 : xe_code 183 46 = some (.ireturn, []) := kg_183_0 (i := 27) rfl
theorem kc_184_0 : xe_code 184 0 = some (.iload_n 1, []) := kg_184_0 (i := 0) rfl
theorem kc_184_1 : xe_code 184 1 = some (.invokestatic 43, [117, 1, 820, 0]) := kg_184_0 (i := 1) rfl
theorem kc_184_4 : xe_code 184 4 = some (.ifCond .eq 18, [22]) := kg_184_0 (i := 2) rfl
theorem kc_184_7 : xe_code 184 7 = some (.aload_n 0, []) := kg_184_0 (i := 3) rfl
theorem kc_184_8 : xe_code 184 8 = some (.getfield 30, [5, 6, 319]) := kg_184_0 (i := 4) rfl
theorem kc_184_11 : xe_code 184 11 = some (.iload_n 1, []) := kg_184_0 (i := 5) rfl
theorem kc_184_12 : xe_code 184 12 = some (.iaload, []) := kg_184_0 (i := 6) rfl
theorem kc_184_13 : xe_code 184 13 = some (.bipush (-9), []) := kg_184_0 (i := 7) rfl
theorem kc_184_15 : xe_code 184 15 = some (.if_icmp .eq 7, [22]) := kg_184_0 (i := 8) rfl
theorem kc_184_18 : xe_code 184 18 = some (.iconst 1, []) := kg_184_0 (i := 9) rfl
theorem kc_184_19 : xe_code 184 19 = some (.goto 4, [23]) := kg_184_0 (i := 10) rfl
theorem kc_184_22 : xe_code 184 22 = some (.iconst 0, []) := kg_184_0 (i := 11) rfl
theorem kc_184_23 : xe_code 184 23 = some (.istore_n 3, []) := kg_184_0 (i := 12) rfl
theorem kc_184_24 : xe_code 184 24 = some (.iload_n 3, []) := kg_184_0 (i := 13) rfl
theorem kc_184_25 : xe_code 184 25 = some (.ifCond .eq 12, [37]) := kg_184_0 (i := 14) rfl
theorem kc_184_28 : xe_code 184 28 = some (.aload_n 0, []) := kg_184_0 (i := 15) rfl
theorem kc_184_29 : xe_code 184 29 = some (.getfield 30, [5, 6, 319]) := kg_184_0 (i := 16) rfl
theorem kc_184_32 : xe_code 184 32 = some (.iload_n 1, []) := kg_184_0 (i := 17) rfl
theorem kc_184_33 : xe_code 184 33 = some (.iaload, []) := kg_184_0 (i := 18) rfl
theorem kc_184_34 : xe_code 184 34 = some (.goto 4, [38]) := kg_184_0 (i := 19) rfl
theorem kc_184_37 : xe_code 184 37 = some (.iload_n 2, []) := kg_184_0 (i := 20) rfl
theorem kc_184_38 : xe_code 184 38 = some (.bipush 24, []) := kg_184_0 (i := 21) rfl
theorem kc_184_40 : xe_code 184 40 = some (.idiv, []) := kg_184_0 (i := 22) rfl
theorem kc_184_41 : xe_code 184 41 = some (.ireturn, []) := kg_184_0 (i := 23) rfl
theorem kc_185_0 : xe_code 185 0 = some (.bipush (-9), []) := kg_185_0 (i := 0) rfl
theorem kc_185_2 : xe_code 185 2 = some (.istore_n 3, []) := kg_185_0 (i := 1) rfl
theorem kc_185_3 : xe_code 185 3 = some (.bipush (-9), []) := kg_185_0 (i := 2) rfl
theorem kc_185_5 : xe_code 185 5 = some (.istore 4, []) := kg_185_0 (i := 3) rfl
theorem kc_185_7 : xe_code 185 7 = some (.iconst 0, []) := kg_185_0 (i := 4) rfl
theorem kc_185_8 : xe_code 185 8 = some (.istore 5, []) := kg_185_0 (i := 5) rfl
theorem kc_185_10 : xe_code 185 10 = some (.iload 5, []) := kg_185_0 (i := 6) rfl
theorem kc_185_12 : xe_code 185 12 = some (.aload_n 0, []) := kg_185_0 (i := 7) rfl
theorem kc_185_13 : xe_code 185 13 = some (.getfield 39, [5, 8, 322]) := kg_185_0 (i := 8) rfl
theorem kc_185_16 : xe_code 185 16 = some (.if_icmp .ge 62, [78]) := kg_185_0 (i := 9) rfl
theorem kc_185_19 : xe_code 185 19 = some (.iload 5, []) := kg_185_0 (i := 10) rfl
theorem kc_185_21 : xe_code 185 21 = some (.bipush 12, []) := kg_185_0 (i := 11) rfl
theorem kc_185_23 : xe_code 185 23 = some (.if_icmp .ge 55, [78]) := kg_185_0 (i := 12) rfl
theorem kc_185_26 : xe_code 185 26 = some (.aload_n 0, []) := kg_185_0 (i := 13) rfl
theorem kc_185_27 : xe_code 185 27 = some (.getfield 15, [5, 1, 314]) := kg_185_0 (i := 14) rfl
theorem kc_185_30 : xe_code 185 30 = some (.iload 5, []) := kg_185_0 (i := 15) rfl
theorem kc_185_32 : xe_code 185 32 = some (.iaload, []) := kg_185_0 (i := 16) rfl
theorem kc_185_33 : xe_code 185 33 = some (.iload_n 1, []) := kg_185_0 (i := 17) rfl
theorem kc_185_34 : xe_code 185 34 = some (.if_icmp .ne 38, [72]) := kg_185_0 (i := 18) rfl
theorem kc_185_37 : xe_code 185 37 = some (.aload_n 0, []) := kg_185_0 (i := 19) rfl
theorem kc_185_38 : xe_code 185 38 = some (.getfield 9, [5, 0, 313]) := kg_185_0 (i := 20) rfl
theorem kc_185_41 : xe_code 185 41 = some (.iload 5, []) := kg_185_0 (i := 21) rfl
theorem kc_185_43 : xe_code 185 43 = some (.iaload, []) := kg_185_0 (i := 22) rfl
theorem kc_185_44 : xe_code 185 44 = some (.iload_n 2, []) := kg_185_0 (i := 23) rfl
theorem kc_185_45 : xe_code 185 45 = some (.if_icmp .gt 27, [72]) := kg_185_0 (i := 24) rfl
theorem kc_185_48 : xe_code 185 48 = some (.aload_n 0, []) := kg_185_0 (i := 25) rfl
theorem kc_185_49 : xe_code 185 49 = some (.getfield 9, [5, 0, 313]) := kg_185_0 (i := 26) rfl
theorem kc_185_52 : xe_code 185 52 = some (.iload 5, []) := kg_185_0 (i := 27) rfl
theorem kc_185_54 : xe_code 185 54 = some (.iaload, []) := kg_185_0 (i := 28) rfl
theorem kc_185_55 : xe_code 185 55 = some (.iload 4, []) := kg_185_0 (i := 29) rfl
theorem kc_185_57 : xe_code 185 57 = some (.if_icmp .lt 15, [72]) := kg_185_0 (i := 30) rfl
theorem kc_185_60 : xe_code 185 60 = some (.iload 5, []) := kg_185_0 (i := 31) rfl
theorem kc_185_62 : xe_code 185 62 = some (.istore_n 3, []) := kg_185_0 (i := 32) rfl
theorem kc_185_63 : xe_code 185 63 = some (.aload_n 0, []) := kg_185_0 (i := 33) rfl
theorem kc_185_64 : xe_code 185 64 = some (.getfield 9, [5, 0, 313]) := kg_185_0 (i := 34) rfl
theorem kc_185_67 : xe_code 185 67 = some (.iload 5, []) := kg_185_0 (i := 35) rfl
theorem kc_185_69 : xe_code 185 69 = some (.iaload, []) := kg_185_0 (i := 36) rfl
theorem kc_185_70 : xe_code 185 70 = some (.istore 4, []) := kg_185_0 (i := 37) rfl
theorem kc_185_72 : xe_code 185 72 = some (.iinc 5 1, []) := kg_185_0 (i := 38) rfl
theorem kc_185_75 : xe_code 185 75 = some (.goto (-65), [10]) := kg_185_0 (i := 39) rfl
theorem kc_185_78 : xe_code 185 78 = some (.iload_n 3, []) := kg_185_0 (i := 40) rfl
theorem kc_185_79 : xe_code 185 79 = some (.ireturn, []) := kg_185_0 (i := 41) rfl
theorem kc_186_0 : xe_code 186 0 = some (.iload_n 1, []) := kg_186_0 (i := 0) rfl
theorem kc_186_1 : xe_code 186 1 = some (.ifCond .lt 9, [10]) := kg_186_0 (i := 1) rfl
theorem kc_186_4 : xe_code 186 4 = some (.iload_n 1, []) := kg_186_0 (i := 2) rfl
theorem kc_186_5 : xe_code 186 5 = some (.bipush 12, []) := kg_186_0 (i := 3) rfl
theorem kc_186_7 : xe_code 186 7 = some (.if_icmp .lt 5, [12]) := kg_186_0 (i := 4) rfl
theorem kc_186_10 : xe_code 186 10 = some (.iconst 0, []) := kg_186_0 (i := 5) rfl
theorem kc_186_11 : xe_code 186 11 = some (.ireturn, []) := kg_186_0 (i := 6) rfl
theorem kc_186_12 : xe_code 186 12 = some (.aload_n 0, []) := kg_186_0 (i := 7) rfl
theorem kc_186_13 : xe_code 186 13 = some (.getfield 47, [5, 7, 320]) := kg_186_0 (i := 8) rfl
theorem kc_186_16 : xe_code 186 16 = some (.ifCond .eq 16, [32]) := kg_186_0 (i := 9) rfl
theorem kc_186_19 : xe_code 186 19 = some (.aload_n 0, []) := kg_186_0 (i := 10) rfl
theorem kc_186_20 : xe_code 186 20 = some (.getfield 21, [5, 3, 316]) := kg_186_0 (i := 11) rfl
theorem kc_186_23 : xe_code 186 23 = some (.iload_n 1, []) := kg_186_0 (i := 12) rfl
theorem kc_186_24 : xe_code 186 24 = some (.iaload, []) := kg_186_0 (i := 13) rfl
theorem kc_186_25 : xe_code 186 25 = some (.iconst 1, []) := kg_186_0 (i := 14) rfl
theorem kc_186_26 : xe_code 186 26 = some (.iadd, []) := kg_186_0 (i := 15) rfl
theorem kc_186_27 : xe_code 186 27 = some (.iconst 2, []) := kg_186_0 (i := 16) rfl
theorem kc_186_28 : xe_code 186 28 = some (.idiv, []) := kg_186_0 (i := 17) rfl
theorem kc_186_29 : xe_code 186 29 = some (.goto 9, [38]) := kg_186_0 (i := 18) rfl
theorem kc_186_32 : xe_code 186 32 = some (.aload_n 0, []) := kg_186_0 (i := 19) rfl
theorem kc_186_33 : xe_code 186 33 = some (.getfield 21, [5, 3, 316]) := kg_186_0 (i := 20) rfl
theorem kc_186_36 : xe_code 186 36 = some (.iload_n 1, []) := kg_186_0 (i := 21) rfl
theorem kc_186_37 : xe_code 186 37 = some (.iaload, []) := kg_186_0 (i := 22) rfl
theorem kc_186_38 : xe_code 186 38 = some (.ireturn, []) := kg_186_0 (i := 23) rfl
theorem kc_187_0 : xe_code 187 0 = some (.iload_n 1, []) := kg_187_0 (i := 0) rfl
theorem kc_187_1 : xe_code 187 1 = some (.ifCond .lt 9, [10]) := kg_187_0 (i := 1) rfl
theorem kc_187_4 : xe_code 187 4 = some (.iload_n 1, []) := kg_187_0 (i := 2) rfl
theorem kc_187_5 : xe_code 187 5 = some (.bipush 12, []) := kg_187_0 (i := 3) rfl
theorem kc_187_7 : xe_code 187 7 = some (.if_icmp .lt 8, [15]) := kg_187_0 (i := 4) rfl
theorem kc_187_10 : xe_code 187 10 = some (.bipush (-9), []) := kg_187_0 (i := 5) rfl
theorem kc_187_12 : xe_code 187 12 = some (.goto 9, [21]) := kg_187_0 (i := 6) rfl
theorem kc_187_15 : xe_code 187 15 = some (.aload_n 0, []) := kg_187_0 (i := 7) rfl
theorem kc_187_16 : xe_code 187 16 = some (.getfield 18, [5, 2, 315]) := kg_187_0 (i := 8) rfl
theorem kc_187_19 : xe_code 187 19 = some (.iload_n 1, []) := kg_187_0 (i := 9) rfl
theorem kc_187_20 : xe_code 187 20 = some (.iaload, []) := kg_187_0 (i := 10) rfl
theorem kc_187_21 : xe_code 187 21 = some (.ireturn, []) := kg_187_0 (i := 11) rfl
theorem kc_188_0 : xe_code 188 0 = some (.iload_n 1, []) := kg_188_0 (i := 0) rfl
theorem kc_188_1 : xe_code 188 1 = some (.invokestatic 171, [117, 1, 529, 0]) := kg_188_0 (i := 1) rfl
theorem kc_188_4 : xe_code 188 4 = some (.ifCond .ne 10, [14]) := kg_188_0 (i := 2) rfl
theorem kc_188_7 : xe_code 188 7 = some (.aload_n 0, []) := kg_188_0 (i := 3) rfl
theorem kc_188_8 : xe_code 188 8 = some (.bipush (-2), []) := kg_188_0 (i := 4) rfl
theorem kc_188_10 : xe_code 188 10 = some (.invokevirtual 72, [90, 1, 407, 0]) := kg_188_0 (i := 5) rfl
theorem kc_188_13 : xe_code 188 13 = some (.ireturn, []) := kg_188_0 (i := 6) rfl
theorem kc_188_14 : xe_code 188 14 = some (.aload_n 0, []) := kg_188_0 (i := 7) rfl
theorem kc_188_15 : xe_code 188 15 = some (.getfield 49, [0, 5, 374]) := kg_188_0 (i := 8) rfl
theorem kc_188_18 : xe_code 188 18 = some (.iload_n 1, []) := kg_188_0 (i := 9) rfl
theorem kc_188_19 : xe_code 188 19 = some (.invokevirtual 297, [189, 1, 849, 5]) := kg_188_0 (i := 10) rfl
theorem kc_188_22 : xe_code 188 22 = some (.ifCond .eq 7, [29]) := kg_188_0 (i := 11) rfl
theorem kc_188_25 : xe_code 188 25 = some (.iconst 1, []) := kg_188_0 (i := 12) rfl
theorem kc_188_26 : xe_code 188 26 = some (.goto 4, [30]) := kg_188_0 (i := 13) rfl
theorem kc_188_29 : xe_code 188 29 = some (.iconst 0, []) := kg_188_0 (i := 14) rfl
theorem kc_188_30 : xe_code 188 30 = some (.ireturn, []) := kg_188_0 (i := 15) rfl
theorem kc_189_0 : xe_code 189 0 = some (.iload_n 1, []) := kg_189_0 (i := 0) rfl
theorem kc_189_1 : xe_code 189 1 = some (.invokestatic 43, [117, 1, 820, 0]) := kg_189_0 (i := 1) rfl
theorem kc_189_4 : xe_code 189 4 = some (.ifCond .eq 40, [44]) := kg_189_0 (i := 2) rfl
theorem kc_189_7 : xe_code 189 7 = some (.aload_n 0, []) := kg_189_0 (i := 3) rfl
theorem kc_189_8 : xe_code 189 8 = some (.getfield 24, [5, 4, 317]) := kg_189_0 (i := 4) rfl
theorem kc_189_11 : xe_code 189 11 = some (.iload_n 1, []) := kg_189_0 (i := 5) rfl
theorem kc_189_12 : xe_code 189 12 = some (.iaload, []) := kg_189_0 (i := 6) rfl
theorem kc_189_13 : xe_code 189 13 = some (.ifCond .eq 31, [44]) := kg_189_0 (i := 7) rfl
theorem kc_189_16 : xe_code 189 16 = some (.aload_n 0, []) := kg_189_0 (i := 8) rfl
theorem kc_189_17 : xe_code 189 17 = some (.getfield 27, [5, 5, 318]) := kg_189_0 (i := 9) rfl
theorem kc_189_20 : xe_code 189 20 = some (.iload_n 1, []) := kg_189_0 (i := 10) rfl
theorem kc_189_21 : xe_code 189 21 = some (.iaload, []) := kg_189_0 (i := 11) rfl
theorem kc_189_22 : xe_code 189 22 = some (.ifCond .eq 22, [44]) := kg_189_0 (i := 12) rfl
theorem kc_189_25 : xe_code 189 25 = some (.aload_n 0, []) := kg_189_0 (i := 13) rfl
theorem kc_189_26 : xe_code 189 26 = some (.getfield 24, [5, 4, 317]) := kg_189_0 (i := 14) rfl
theorem kc_189_29 : xe_code 189 29 = some (.iload_n 1, []) := kg_189_0 (i := 15) rfl
theorem kc_189_30 : xe_code 189 30 = some (.iaload, []) := kg_189_0 (i := 16) rfl
theorem kc_189_31 : xe_code 189 31 = some (.aload_n 0, []) := kg_189_0 (i := 17) rfl
theorem kc_189_32 : xe_code 189 32 = some (.getfield 27, [5, 5, 318]) := kg_189_0 (i := 18) rfl
theorem kc_189_35 : xe_code 189 35 = some (.iload_n 1, []) := kg_189_0 (i := 19) rfl
theorem kc_189_36 : xe_code 189 36 = some (.iaload, []) := kg_189_0 (i := 20) rfl
theorem kc_189_37 : xe_code 189 37 = some (.if_icmp .eq 7, [44]) := kg_189_0 (i := 21) rfl
theorem kc_189_40 : xe_code 189 40 = some (.iconst 1, []) := kg_189_0 (i := 22) rfl
theorem kc_189_41 : xe_code 189 41 = some (.goto 4, [45]) := kg_189_0 (i := 23) rfl
theorem kc_189_44 : xe_code 189 44 = some (.iconst 0, []) := kg_189_0 (i := 24) rfl
theorem kc_189_45 : xe_code 189 45 = some (.ireturn, []) := kg_189_0 (i := 25) rfl
theorem kc_190_0 : xe_code 190 0 = some (.iload_n 1, []) := kg_190_0 (i := 0) rfl
theorem kc_190_1 : xe_code 190 1 = some (.tableswitch 132 0 9 #[55, 60, 68, 76, 84, 95, 103, 111, 116, 124], [133, 56, 61, 69, 77, 85, 96, 104, 112, 117, 125]) := kg_190_0 (i := 1) rfl
theorem kc_190_56 : xe_code 190 56 = some (.aload_n 0, []) := kg_190_0 (i := 2) rfl
theorem kc_190_57 : xe_code 190 57 = some (.getfield 148, [0, 9, 378]) := kg_190_0 (i := 3) rfl
theorem kc_190_60 : xe_code 190 60 = some (.ireturn, []) := kg_190_0 (i := 4) rfl
theorem kc_190_61 : xe_code 190 61 = some (.aload_n 0, []) := kg_190_0 (i := 5) rfl
theorem kc_190_62 : xe_code 190 62 = some (.getfield 10, [0, 0, 369]) := kg_190_0 (i := 6) rfl
theorem kc_190_65 : xe_code 190 65 = some (.invokevirtual 300, [191, 0, 857, 4]) := kg_190_0 (i := 7) rfl
theorem kc_190_68 : xe_code 190 68 = some (.ireturn, []) := kg_190_0 (i := 8) rfl
theorem kc_190_69 : xe_code 190 69 = some (.aload_n 0, []) := kg_190_0 (i := 9) rfl
theorem kc_190_70 : xe_code 190 70 = some (.getfield 28, [0, 2, 371]) := kg_190_0 (i := 10) rfl
theorem kc_190_73 : xe_code 190 73 = some (.getfield 164, [3, 8, 241]) := kg_190_0 (i := 11) rfl
theorem kc_190_76 : xe_code 190 76 = some (.ireturn, []) := kg_190_0 (i := 12) rfl
theorem kc_190_77 : xe_code 190 77 = some (.aload_n 0, []) := kg_190_0 (i := 13) rfl
theorem kc_190_78 : xe_code 190 78 = some (.getfield 10, [0, 0, 369]) := kg_190_0 (i := 14) rfl
theorem kc_190_81 : xe_code 190 81 = some (.getfield 178, [4, 5, 178]) := kg_190_0 (i := 15) rfl
theorem kc_190_84 : xe_code 190 84 = some (.ireturn, []) := kg_190_0 (i := 16) rfl
theorem kc_190_85 : xe_code 190 85 = some (.aload_n 0, []) := kg_190_0 (i := 17) rfl
theorem kc_190_86 : xe_code 190 86 = some (.getfield 19, [0, 1, 370]) := kg_190_0 (i := 18) rfl
theorem kc_190_89 : xe_code 190 89 = some (.getfield 184, [9, 2, 210]) := kg_190_0 (i := 19) rfl
theorem kc_190_92 : xe_code 190 92 = some (.invokestatic 303, [4, 1, 861, 0]) := kg_190_0 (i := 20) rfl
theorem kc_190_95 : xe_code 190 95 = some (.ireturn, []) := kg_190_0 (i := 21) rfl
theorem kc_190_96 : xe_code 190 96 = some (.aload_n 0, []) := kg_190_0 (i := 22) rfl
theorem kc_190_97 : xe_code 190 97 = some (.getfield 35, [0, 3, 372]) := kg_190_0 (i := 23) rfl
theorem kc_190_100 : xe_code 190 100 = some (.getfield 227, [6, 4, 274]) := kg_190_0 (i := 24) rfl
theorem kc_190_103 : xe_code 190 103 = some (.ireturn, []) := kg_190_0 (i := 25) rfl
theorem kc_190_104 : xe_code 190 104 = some (.aload_n 0, []) := kg_190_0 (i := 26) rfl
theorem kc_190_105 : xe_code 190 105 = some (.getfield 35, [0, 3, 372]) := kg_190_0 (i := 27) rfl
theorem kc_190_108 : xe_code 190 108 = some (.invokevirtual 307, [192, 0, 862, 6]) := kg_190_0 (i := 28) rfl
theorem kc_190_111 : xe_code 190 111 = some (.ireturn, []) := kg_190_0 (i := 29) rfl
theorem kc_190_112 : xe_code 190 112 = some (.aload_n 0, []) := kg_190_0 (i := 30) rfl
theorem kc_190_113 : xe_code 190 113 = some (.getfield 243, [0, 8, 377]) := kg_190_0 (i := 31) rfl
theorem kc_190_116 : xe_code 190 116 = some (.ireturn, []) := kg_190_0 (i := 32) rfl
theorem kc_190_117 : xe_code 190 117 = some (.aload_n 0, []) := kg_190_0 (i := 33) rfl
theorem kc_190_118 : xe_code 190 118 = some (.getfield 49, [0, 5, 374]) := kg_190_0 (i := 34) rfl
theorem kc_190_121 : xe_code 190 121 = some (.getfield 273, [5, 8, 323]) := kg_190_0 (i := 35) rfl
theorem kc_190_124 : xe_code 190 124 = some (.ireturn, []) := kg_190_0 (i := 36) rfl
theorem kc_190_125 : xe_code 190 125 = some (.aload_n 0, []) := kg_190_0 (i := 37) rfl
theorem kc_190_126 : xe_code 190 126 = some (.getfield 42, [0, 4, 373]) := kg_190_0 (i := 38) rfl
theorem kc_190_129 : xe_code 190 129 = some (.invokevirtual 267, [173, 0, 783, 2]) := kg_190_0 (i := 39) rfl
theorem kc_190_132 : xe_code 190 132 = some (.ireturn, []) := kg_190_0 (i := 40) rfl
theorem kc_190_133 : xe_code 190 133 = some (.iload_n 1, []) := kg_190_0 (i := 41) rfl
theorem kc_190_134 : xe_code 190 134 = some (.bipush 11, []) := kg_190_0 (i := 42) rfl
theorem kc_190_136 : xe_code 190 136 = some (.if_icmp .lt 21, [157]) := kg_190_0 (i := 43) rfl
theorem kc_190_139 : xe_code 190 139 = some (.iload_n 1, []) := kg_190_0 (i := 44) rfl
theorem kc_190_140 : xe_code 190 140 = some (.bipush 16, []) := kg_190_0 (i := 45) rfl
theorem kc_190_142 : xe_code 190 142 = some (.if_icmp .gt 15, [157]) := kg_190_0 (i := 46) rfl
theorem kc_190_145 : xe_code 190 145 = some (.aload_n 0, []) := kg_190_0 (i := 47) rfl
theorem kc_190_146 : xe_code 190 146 = some (.getfield 59, [0, 7, 376]) := kg_190_1 (i := 0) rfl
theorem kc_190_149 : xe_code 190 149 = some (.iload_n 1, []) := kg_190_1 (i := 1) rfl
theorem kc_190_150 : xe_code 190 150 = some (.bipush 10, []) := kg_190_1 (i := 2) rfl
theorem kc_190_152 : xe_code 190 152 = some (.isub, []) := kg_190_1 (i := 3) rfl
theorem kc_190_153 : xe_code 190 153 = some (.iaload, []) := kg_190_1 (i := 4) rfl
theorem kc_190_154 : xe_code 190 154 = some (.goto 5, [159]) := kg_190_1 (i := 5) rfl
theorem kc_190_157 : xe_code 190 157 = some (.bipush (-9), []) := kg_190_1 (i := 6) rfl
theorem kc_190_159 : xe_code 190 159 = some (.ireturn, []) := kg_190_1 (i := 7) rfl
theorem kc_191_0 : xe_code 191 0 = some (.iconst 0, []) := kg_191_0 (i := 0) rfl
theorem kc_191_1 : xe_code 191 1 = some (.istore_n 1, []) := kg_191_0 (i := 1) rfl
theorem kc_191_2 : xe_code 191 2 = some (.iconst 0, []) := kg_191_0 (i := 2) rfl
theorem kc_191_3 : xe_code 191 3 = some (.istore_n 2, []) := kg_191_0 (i := 3) rfl
theorem kc_191_4 : xe_code 191 4 = some (.iload_n 2, []) := kg_191_0 (i := 4) rfl
theorem kc_191_5 : xe_code 191 5 = some (.bipush 12, []) := kg_191_0 (i := 5) rfl
theorem kc_191_7 : xe_code 191 7 = some (.if_icmp .ge 29, [36]) := kg_191_0 (i := 6) rfl
theorem kc_191_10 : xe_code 191 10 = some (.iload_n 1, []) := kg_191_0 (i := 7) rfl
theorem kc_191_11 : xe_code 191 11 = some (.aload_n 0, []) := kg_191_0 (i := 8) rfl
theorem kc_191_12 : xe_code 191 12 = some (.getfield 19, [4, 1, 172]) := kg_191_0 (i := 9) rfl
theorem kc_191_15 : xe_code 191 15 = some (.iload_n 2, []) := kg_191_0 (i := 10) rfl
theorem kc_191_16 : xe_code 191 16 = some (.aaload, []) := kg_191_0 (i := 11) rfl
theorem kc_191_17 : xe_code 191 17 = some (.invokevirtual 65, [105, 0, 493, 11]) := kg_191_0 (i := 12) rfl
theorem kc_191_20 : xe_code 191 20 = some (.ifCond .eq 7, [27]) := kg_191_0 (i := 13) rfl
theorem kc_191_23 : xe_code 191 23 = some (.iconst 1, []) := kg_191_0 (i := 14) rfl
theorem kc_191_24 : xe_code 191 24 = some (.goto 4, [28]) := kg_191_0 (i := 15) rfl
theorem kc_191_27 : xe_code 191 27 = some (.iconst 0, []) := kg_191_0 (i := 16) rfl
theorem kc_191_28 : xe_code 191 28 = some (.iadd, []) := kg_191_0 (i := 17) rfl
theorem kc_191_29 : xe_code 191 29 = some (.istore_n 1, []) := kg_191_0 (i := 18) rfl
theorem kc_191_30 : xe_code 191 30 = some (.iinc 2 1, []) := kg_191_0 (i := 19) rfl
theorem kc_191_33 : xe_code 191 33 = some (.goto (-29), [4]) := kg_191_0 (i := 20) rfl
theorem kc_191_36 : xe_code 191 36 = some (.iload_n 1, []) := kg_191_0 (i := 21) rfl
theorem kc_191_37 : xe_code 191 37 = some (.ireturn, []) := kg_191_0 (i := 22) rfl
theorem kc_192_0 : xe_code 192 0 = some (.iconst 0, []) := kg_192_0 (i := 0) rfl
theorem kc_192_1 : xe_code 192 1 = some (.istore_n 1, []) := kg_192_0 (i := 1) rfl
theorem kc_192_2 : xe_code 192 2 = some (.iconst 0, []) := kg_192_0 (i := 2) rfl
theorem kc_192_3 : xe_code 192 3 = some (.istore_n 2, []) := kg_192_0 (i := 3) rfl
theorem kc_192_4 : xe_code 192 4 = some (.iload_n 2, []) := kg_192_0 (i := 4) rfl
theorem kc_192_5 : xe_code 192 5 = some (.aload_n 0, []) := kg_192_0 (i := 5) rfl
theorem kc_192_6 : xe_code 192 6 = some (.getfield 25, [6, 4, 273]) := kg_192_0 (i := 6) rfl
theorem kc_192_9 : xe_code 192 9 = some (.if_icmp .ge 32, [41]) := kg_192_0 (i := 7) rfl
theorem kc_192_12 : xe_code 192 12 = some (.iload_n 2, []) := kg_192_0 (i := 8) rfl
theorem kc_192_13 : xe_code 192 13 = some (.bipush 8, []) := kg_192_0 (i := 9) rfl
theorem kc_192_15 : xe_code 192 15 = some (.if_icmp .ge 26, [41]) := kg_192_0 (i := 10) rfl
theorem kc_192_18 : xe_code 192 18 = some (.iload_n 1, []) := kg_192_0 (i := 11) rfl
theorem kc_192_19 : xe_code 192 19 = some (.aload_n 0, []) := kg_192_0 (i := 12) rfl
theorem kc_192_20 : xe_code 192 20 = some (.getfield 22, [6, 3, 271]) := kg_192_0 (i := 13) rfl
theorem kc_192_23 : xe_code 192 23 = some (.iload_n 2, []) := kg_192_0 (i := 14) rfl
theorem kc_192_24 : xe_code 192 24 = some (.iaload, []) := kg_192_0 (i := 15) rfl
theorem kc_192_25 : xe_code 192 25 = some (.ifCond .ne 7, [32]) := kg_192_0 (i := 16) rfl
theorem kc_192_28 : xe_code 192 28 = some (.iconst 0, []) := kg_192_0 (i := 17) rfl
theorem kc_192_29 : xe_code 192 29 = some (.goto 4, [33]) := kg_192_0 (i := 18) rfl
theorem kc_192_32 : xe_code 192 32 = some (.iconst 1, []) := kg_192_0 (i := 19) rfl
theorem kc_192_33 : xe_code 192 33 = some (.iadd, []) := kg_192_0 (i := 20) rfl
theorem kc_192_34 : xe_code 192 34 = some (.istore_n 1, []) := kg_192_0 (i := 21) rfl
theorem kc_192_35 : xe_code 192 35 = some (.iinc 2 1, []) := kg_192_0 (i := 22) rfl
theorem kc_192_38 : xe_code 192 38 = some (.goto (-34), [4]) := kg_192_0 (i := 23) rfl
theorem kc_192_41 : xe_code 192 41 = some (.iload_n 1, []) := kg_192_0 (i := 24) rfl
theorem kc_192_42 : xe_code 192 42 = some (.ireturn, []) := kg_192_0 (i := 25) rfl
theorem kc_193_0 : xe_code 193 0 = some (.aload_n 0, []) := kg_193_0 (i := 0) rfl
theorem kc_193_1 : xe_code 193 1 = some (.getfield 28, [0, 2, 371]) := kg_193_0 (i := 1) rfl
theorem kc_193_4 : xe_code 193 4 = some (.iload_n 1, []) := kg_193_0 (i := 2) rfl
theorem kc_193_5 : xe_code 193 5 = some (.invokevirtual 190, [138, 1, 617, 3]) := kg_193_0 (i := 3) rfl
theorem kc_193_8 : xe_code 193 8 = some (.ifCond .ne 13, [21]) := kg_193_0 (i := 4) rfl
theorem kc_193_14 : xe_code 193 14 = some (.dup, []) := kg_193_0 (i := 5) rfl
theorem kc_193_21 : xe_code 193 21 = some (.aload_n 0, []) := kg_193_0 (i := 6) rfl
theorem kc_193_22 : xe_code 193 22 = some (.getfield 28, [0, 2, 371]) := kg_193_0 (i := 7) rfl
theorem kc_193_25 : xe_code 193 25 = some (.iload_n 1, []) := kg_193_0 (i := 8) rfl
theorem kc_193_26 : xe_code 193 26 = some (.invokevirtual 200, [146, 1, 940, 3]) := kg_193_0 (i := 9) rfl
theorem kc_193_29 : xe_code 193 29 = some (.lreturn, []) := kg_193_0 (i := 10) rfl
theorem kc_195_0 : xe_code 195 0 = some (.new 8, [0, 70]) := kg_195_0 (i := 0) rfl
theorem kc_195_3 : xe_code 195 3 = some (.dup, []) := kg_195_0 (i := 1) rfl
theorem kc_195_4 : xe_code 195 4 = some (.invokespecial 15, [76, 0, 72, 0]) := kg_195_0 (i := 2) rfl
theorem kc_195_7 : xe_code 195 7 = some (.astore_n 1, []) := kg_195_0 (i := 3) rfl
theorem kc_195_8 : xe_code 195 8 = some (.new 16, [12, 941]) := kg_195_0 (i := 4) rfl
theorem kc_195_11 : xe_code 195 11 = some (.dup, []) := kg_195_0 (i := 5) rfl
theorem kc_195_12 : xe_code 195 12 = some (.invokespecial 18, [8, 0, 943, 12]) := kg_195_0 (i := 6) rfl
theorem kc_195_15 : xe_code 195 15 = some (.astore_n 2, []) := kg_195_0 (i := 7) rfl
theorem kc_195_16 : xe_code 195 16 = some (.iconst 1, []) := kg_195_0 (i := 8) rfl
theorem kc_195_17 : xe_code 195 17 = some (.newarray .long, [1, 261]) := kg_195_0 (i := 9) rfl
theorem kc_195_19 : xe_code 195 19 = some (.astore_n 3, []) := kg_195_0 (i := 10) rfl
theorem kc_195_20 : xe_code 195 20 = some (.iconst 0, []) := kg_195_0 (i := 11) rfl
theorem kc_195_21 : xe_code 195 21 = some (.istore 4, []) := kg_195_0 (i := 12) rfl
theorem kc_195_23 : xe_code 195 23 = some (.iload 4, []) := kg_195_0 (i := 13) rfl
theorem kc_195_25 : xe_code 195 25 = some (.aload_n 0, []) := kg_195_0 (i := 14) rfl
theorem kc_195_26 : xe_code 195 26 = some (.arraylength, []) := kg_195_0 (i := 15) rfl
theorem kc_195_27 : xe_code 195 27 = some (.bipush 6, []) := kg_195_0 (i := 16) rfl
theorem kc_195_29 : xe_code 195 29 = some (.isub, []) := kg_195_0 (i := 17) rfl
theorem kc_195_30 : xe_code 195 30 = some (.if_icmp .gt 1477, [1507]) := kg_195_0 (i := 18) rfl
theorem kc_195_33 : xe_code 195 33 = some (.aload_n 0, []) := kg_195_0 (i := 19) rfl
theorem kc_195_34 : xe_code 195 34 = some (.iload 4, []) := kg_195_0 (i := 20) rfl
theorem kc_195_36 : xe_code 195 36 = some (.iaload, []) := kg_195_0 (i := 21) rfl
theorem kc_195_37 : xe_code 195 37 = some (.bipush 63, []) := kg_195_0 (i := 22) rfl
theorem kc_195_39 : xe_code 195 39 = some (.iand, []) := kg_195_0 (i := 23) rfl
theorem kc_195_40 : xe_code 195 40 = some (.tableswitch 1461 0 33 #[152, 201, 250, 299, 336, 361, 438, 475, 500, 525, 550, 611, 672, 725, 750, 778, 815, 828, 853, 866, 903, 956, 969, 982, 1055, 1092, 1153, 1166, 1191, 1252, 1293, 1374, 1411, 1436], [1501, 192, 241, 290, 339, 376, 401, 478, 515, 540, 565, 590, 651, 712, 765, 790, 818, 855, 868, 893, 906, 943, 996, 1009, 1022, 1095, 1132, 1193, 1206, 1231, 1292, 1333, 1414, 1451, 1476]) := kg_195_0 (i := 24) rfl
theorem kc_195_192 : xe_code 195 192 = some (.aload_n 1, []) := kg_195_0 (i := 25) rfl
theorem kc_195_193 : xe_code 195 193 = some (.aload_n 0, []) := kg_195_0 (i := 26) rfl
theorem kc_195_194 : xe_code 195 194 = some (.iload 4, []) := kg_195_0 (i := 27) rfl
theorem kc_195_196 : xe_code 195 196 = some (.iconst 1, []) := kg_195_0 (i := 28) rfl
theorem kc_195_197 : xe_code 195 197 = some (.iadd, []) := kg_195_0 (i := 29) rfl
theorem kc_195_198 : xe_code 195 198 = some (.iaload, []) := kg_195_0 (i := 30) rfl
theorem kc_195_199 : xe_code 195 199 = some (.aload_n 0, []) := kg_195_0 (i := 31) rfl
theorem kc_195_200 : xe_code 195 200 = some (.iload 4, []) := kg_195_0 (i := 32) rfl
theorem kc_195_202 : xe_code 195 202 = some (.iconst 2, []) := kg_195_0 (i := 33) rfl
theorem kc_195_203 : xe_code 195 203 = some (.iadd, []) := kg_195_0 (i := 34) rfl
theorem kc_195_204 : xe_code 195 204 = some (.iaload, []) := kg_195_0 (i := 35) rfl
theorem kc_195_205 : xe_code 195 205 = some (.aload_n 0, []) := kg_195_0 (i := 36) rfl
theorem kc_195_206 : xe_code 195 206 = some (.iload 4, []) := kg_195_0 (i := 37) rfl
theorem kc_195_208 : xe_code 195 208 = some (.iconst 3, []) := kg_195_0 (i := 38) rfl
theorem kc_195_209 : xe_code 195 209 = some (.iadd, []) := kg_195_0 (i := 39) rfl
theorem kc_195_210 : xe_code 195 210 = some (.iaload, []) := kg_195_0 (i := 40) rfl
theorem kc_195_211 : xe_code 195 211 = some (.invokevirtual 19, [88, 3, 400, 0]) := kg_195_0 (i := 41) rfl
theorem kc_195_214 : xe_code 195 214 = some (.pop, []) := kg_195_0 (i := 42) rfl
theorem kc_195_215 : xe_code 195 215 = some (.aload_n 2, []) := kg_195_0 (i := 43) rfl
theorem kc_195_216 : xe_code 195 216 = some (.aload_n 0, []) := kg_195_0 (i := 44) rfl
theorem kc_195_217 : xe_code 195 217 = some (.iload 4, []) := kg_195_0 (i := 45) rfl
theorem kc_195_219 : xe_code 195 219 = some (.iconst 1, []) := kg_195_0 (i := 46) rfl
theorem kc_195_220 : xe_code 195 220 = some (.iadd, []) := kg_195_0 (i := 47) rfl
theorem kc_195_221 : xe_code 195 221 = some (.iaload, []) := kg_195_1 (i := 0) rfl
theorem kc_195_222 : xe_code 195 222 = some (.aload_n 0, []) := kg_195_1 (i := 1) rfl
theorem kc_195_223 : xe_code 195 223 = some (.iload 4, []) := kg_195_1 (i := 2) rfl
theorem kc_195_225 : xe_code 195 225 = some (.iconst 2, []) := kg_195_1 (i := 3) rfl
theorem kc_195_226 : xe_code 195 226 = some (.iadd, []) := kg_195_1 (i := 4) rfl
theorem kc_195_227 : xe_code 195 227 = some (.iaload, []) := kg_195_1 (i := 5) rfl
theorem kc_195_228 : xe_code 195 228 = some (.aload_n 0, []) := kg_195_1 (i := 6) rfl
theorem kc_195_229 : xe_code 195 229 = some (.iload 4, []) := kg_195_1 (i := 7) rfl
theorem kc_195_231 : xe_code 195 231 = some (.iconst 3, []) := kg_195_1 (i := 8) rfl
theorem kc_195_232 : xe_code 195 232 = some (.iadd, []) := kg_195_1 (i := 9) rfl
theorem kc_195_233 : xe_code 195 233 = some (.iaload, []) := kg_195_1 (i := 10) rfl
theorem kc_195_234 : xe_code 195 234 = some (.invokevirtual 23, [9, 3, 1141, 12]) := kg_195_1 (i := 11) rfl
theorem kc_195_237 : xe_code 195 237 = some (.pop, []) := kg_195_1 (i := 12) rfl
theorem kc_195_238 : xe_code 195 238 = some (.goto 1263, [1501]) := kg_195_1 (i := 13) rfl
theorem kc_195_241 : xe_code 195 241 = some (.aload_n 1, []) := kg_195_1 (i := 14) rfl
theorem kc_195_242 : xe_code 195 242 = some (.aload_n 0, []) := kg_195_1 (i := 15) rfl
theorem kc_195_243 : xe_code 195 243 = some (.iload 4, []) := kg_195_1 (i := 16) rfl
theorem kc_195_245 : xe_code 195 245 = some (.iconst 1, []) := kg_195_1 (i := 17) rfl
theorem kc_195_246 : xe_code 195 246 = some (.iadd, []) := kg_195_1 (i := 18) rfl
theorem kc_195_247 : xe_code 195 247 = some (.iaload, []) := kg_195_1 (i := 19) rfl
theorem kc_195_248 : xe_code 195 248 = some (.aload_n 0, []) := kg_195_1 (i := 20) rfl
theorem kc_195_249 : xe_code 195 249 = some (.iload 4, []) := kg_195_1 (i := 21) rfl
theorem kc_195_251 : xe_code 195 251 = some (.iconst 2, []) := kg_195_1 (i := 22) rfl
theorem kc_195_252 : xe_code 195 252 = some (.iadd, []) := kg_195_1 (i := 23) rfl
theorem kc_195_253 : xe_code 195 253 = some (.iaload, []) := kg_195_1 (i := 24) rfl
theorem kc_195_254 : xe_code 195 254 = some (.aload_n 0, []) := kg_195_1 (i := 25) rfl
theorem kc_195_255 : xe_code 195 255 = some (.iload 4, []) := kg_195_1 (i := 26) rfl
theorem kc_195_257 : xe_code 195 257 = some (.iconst 3, []) := kg_195_1 (i := 27) rfl
theorem kc_195_258 : xe_code 195 258 = some (.iadd, []) := kg_195_1 (i := 28) rfl
theorem kc_195_259 : xe_code 195 259 = some (.iaload, []) := kg_195_1 (i := 29) rfl
theorem kc_195_260 : xe_code 195 260 = some (.invokevirtual 24, [94, 3, 428, 0]) := kg_195_1 (i := 30) rfl
theorem kc_195_263 : xe_code 195 263 = some (.pop, []) := kg_195_1 (i := 31) rfl
theorem kc_195_264 : xe_code 195 264 = some (.aload_n 2, []) := kg_195_1 (i := 32) rfl
theorem kc_195_265 : xe_code 195 265 = some (.aload_n 0, []) := kg_195_1 (i := 33) rfl
theorem kc_195_266 : xe_code 195 266 = some (.iload 4, []) := kg_195_1 (i := 34) rfl
theorem kc_195_268 : xe_code 195 268 = some (.iconst 1, []) := kg_195_1 (i := 35) rfl
theorem kc_195_269 : xe_code 195 269 = some (.iadd, []) := kg_195_1 (i := 36) rfl
theorem kc_195_270 : xe_code 195 270 = some (.iaload, []) := kg_195_1 (i := 37) rfl
theorem kc_195_271 : xe_code 195 271 = some (.aload_n 0, []) := kg_195_1 (i := 38) rfl
theorem kc_195_272 : xe_code 195 272 = some (.iload 4, []) := kg_195_1 (i := 39) rfl
theorem kc_195_274 : xe_code 195 274 = some (.iconst 2, []) := kg_195_1 (i := 40) rfl
theorem kc_195_275 : xe_code 195 275 = some (.iadd, []) := kg_195_1 (i := 41) rfl
theorem kc_195_276 : xe_code 195 276 = some (.iaload, []) := kg_195_1 (i := 42) rfl
theorem kc_195_277 : xe_code 195 277 = some (.aload_n 0, []) := kg_195_1 (i := 43) rfl
theorem kc_195_278 : xe_code 195 278 = some (.iload 4, []) := kg_195_1 (i := 44) rfl
theorem kc_195_280 : xe_code 195 280 = some (.iconst 3, []) := kg_195_1 (i := 45) rfl
theorem kc_195_281 : xe_code 195 281 = some (.iadd, []) := kg_195_1 (i := 46) rfl
theorem kc_195_282 : xe_code 195 282 = some (.iaload, []) := kg_195_1 (i := 47) rfl
theorem kc_195_283 : xe_code 195 283 = some (.invokevirtual 27, [15, 3, 1164, 12]) := kg_195_2 (i := 0) rfl
theorem kc_195_286 : xe_code 195 286 = some (.pop, []) := kg_195_2 (i := 1) rfl
theorem kc_195_287 : xe_code 195 287 = some (.goto 1214, [1501]) := kg_195_2 (i := 2) rfl
theorem kc_195_290 : xe_code 195 290 = some (.aload_n 1, []) := kg_195_2 (i := 3) rfl
theorem kc_195_291 : xe_code 195 291 = some (.aload_n 0, []) := kg_195_2 (i := 4) rfl
theorem kc_195_292 : xe_code 195 292 = some (.iload 4, []) := kg_195_2 (i := 5) rfl
theorem kc_195_294 : xe_code 195 294 = some (.iconst 1, []) := kg_195_2 (i := 6) rfl
theorem kc_195_295 : xe_code 195 295 = some (.iadd, []) := kg_195_2 (i := 7) rfl
theorem kc_195_296 : xe_code 195 296 = some (.iaload, []) := kg_195_2 (i := 8) rfl
theorem kc_195_297 : xe_code 195 297 = some (.aload_n 0, []) := kg_195_2 (i := 9) rfl
theorem kc_195_298 : xe_code 195 298 = some (.iload 4, []) := kg_195_2 (i := 10) rfl
theorem kc_195_300 : xe_code 195 300 = some (.iconst 2, []) := kg_195_2 (i := 11) rfl
theorem kc_195_301 : xe_code 195 301 = some (.iadd, []) := kg_195_2 (i := 12) rfl
theorem kc_195_302 : xe_code 195 302 = some (.iaload, []) := kg_195_2 (i := 13) rfl
theorem kc_195_303 : xe_code 195 303 = some (.aload_n 0, []) := kg_195_2 (i := 14) rfl
theorem kc_195_304 : xe_code 195 304 = some (.iload 4, []) := kg_195_2 (i := 15) rfl
theorem kc_195_306 : xe_code 195 306 = some (.iconst 3, []) := kg_195_2 (i := 16) rfl
theorem kc_195_307 : xe_code 195 307 = some (.iadd, []) := kg_195_2 (i := 17) rfl
theorem kc_195_308 : xe_code 195 308 = some (.iaload, []) := kg_195_2 (i := 18) rfl
theorem kc_195_309 : xe_code 195 309 = some (.invokevirtual 28, [95, 3, 432, 0]) := kg_195_2 (i := 19) rfl
theorem kc_195_312 : xe_code 195 312 = some (.pop, []) := kg_195_2 (i := 20) rfl
theorem kc_195_313 : xe_code 195 313 = some (.aload_n 2, []) := kg_195_2 (i := 21) rfl
theorem kc_195_314 : xe_code 195 314 = some (.aload_n 0, []) := kg_195_2 (i := 22) rfl
theorem kc_195_315 : xe_code 195 315 = some (.iload 4, []) := kg_195_2 (i := 23) rfl
theorem kc_195_317 : xe_code 195 317 = some (.iconst 1, []) := kg_195_2 (i := 24) rfl
theorem kc_195_318 : xe_code 195 318 = some (.iadd, []) := kg_195_2 (i := 25) rfl
theorem kc_195_319 : xe_code 195 319 = some (.iaload, []) := kg_195_2 (i := 26) rfl
theorem kc_195_320 : xe_code 195 320 = some (.aload_n 0, []) := kg_195_2 (i := 27) rfl
theorem kc_195_321 : xe_code 195 321 = some (.iload 4, []) := kg_195_2 (i := 28) rfl
theorem kc_195_323 : xe_code 195 323 = some (.iconst 2, []) := kg_195_2 (i := 29) rfl
theorem kc_195_324 : xe_code 195 324 = some (.iadd, []) := kg_195_2 (i := 30) rfl
theorem kc_195_325 : xe_code 195 325 = some (.iaload, []) := kg_195_2 (i := 31) rfl
theorem kc_195_326 : xe_code 195 326 = some (.aload_n 0, []) := kg_195_2 (i := 32) rfl
theorem kc_195_327 : xe_code 195 327 = some (.iload 4, []) := kg_195_2 (i := 33) rfl
theorem kc_195_329 : xe_code 195 329 = some (.iconst 3, []) := kg_195_2 (i := 34) rfl
theorem kc_195_330 : xe_code 195 330 = some (.iadd, []) := kg_195_2 (i := 35) rfl
theorem kc_195_331 : xe_code 195 331 = some (.iaload, []) := kg_195_2 (i := 36) rfl
theorem kc_195_332 : xe_code 195 332 = some (.invokevirtual 31, [16, 3, 1168, 12]) := kg_195_2 (i := 37) rfl
theorem kc_195_335 : xe_code 195 335 = some (.pop, []) := kg_195_2 (i := 38) rfl
theorem kc_195_336 : xe_code 195 336 = some (.goto 1165, [1501]) := kg_195_2 (i := 39) rfl
theorem kc_195_339 : xe_code 195 339 = some (.aload_n 1, []) := kg_195_2 (i := 40) rfl
theorem kc_195_340 : xe_code 195 340 = some (.aload_n 0, []) := kg_195_2 (i := 41) rfl
theorem kc_195_341 : xe_code 195 341 = some (.iload 4, []) := kg_195_2 (i := 42) rfl
theorem kc_195_343 : xe_code 195 343 = some (.iconst 1, []) := kg_195_2 (i := 43) rfl
theorem kc_195_344 : xe_code 195 344 = some (.iadd, []) := kg_195_2 (i := 44) rfl
theorem kc_195_345 : xe_code 195 345 = some (.iaload, []) := kg_195_2 (i := 45) rfl
theorem kc_195_346 : xe_code 195 346 = some (.aload_n 0, []) := kg_195_2 (i := 46) rfl
theorem kc_195_347 : xe_code 195 347 = some (.iload 4, []) := kg_195_2 (i := 47) rfl
theorem kc_195_349 : xe_code 195 349 = some (.iconst 2, []) := kg_195_3 (i := 0) rfl
theorem kc_195_350 : xe_code 195 350 = some (.iadd, []) := kg_195_3 (i := 1) rfl
theorem kc_195_351 : xe_code 195 351 = some (.iaload, []) := kg_195_3 (i := 2) rfl
theorem kc_195_352 : xe_code 195 352 = some (.invokevirtual 32, [100, 2, 453, 0]) := kg_195_3 (i := 3) rfl
theorem kc_195_355 : xe_code 195 355 = some (.pop, []) := kg_195_3 (i := 4) rfl
theorem kc_195_356 : xe_code 195 356 = some (.aload_n 2, []) := kg_195_3 (i := 5) rfl
theorem kc_195_357 : xe_code 195 357 = some (.aload_n 0, []) := kg_195_3 (i := 6) rfl
theorem kc_195_358 : xe_code 195 358 = some (.iload 4, []) := kg_195_3 (i := 7) rfl
theorem kc_195_360 : xe_code 195 360 = some (.iconst 1, []) := kg_195_3 (i := 8) rfl
theorem kc_195_361 : xe_code 195 361 = some (.iadd, []) := kg_195_3 (i := 9) rfl
theorem kc_195_362 : xe_code 195 362 = some (.iaload, []) := kg_195_3 (i := 10) rfl
theorem kc_195_363 : xe_code 195 363 = some (.aload_n 0, []) := kg_195_3 (i := 11) rfl
theorem kc_195_364 : xe_code 195 364 = some (.iload 4, []) := kg_195_3 (i := 12) rfl
theorem kc_195_366 : xe_code 195 366 = some (.iconst 2, []) := kg_195_3 (i := 13) rfl
theorem kc_195_367 : xe_code 195 367 = some (.iadd, []) := kg_195_3 (i := 14) rfl
theorem kc_195_368 : xe_code 195 368 = some (.iaload, []) := kg_195_3 (i := 15) rfl
theorem kc_195_369 : xe_code 195 369 = some (.invokevirtual 36, [18, 2, 1177, 12]) := kg_195_3 (i := 16) rfl
theorem kc_195_372 : xe_code 195 372 = some (.pop, []) := kg_195_3 (i := 17) rfl
theorem kc_195_373 : xe_code 195 373 = some (.goto 1128, [1501]) := kg_195_3 (i := 18) rfl
theorem kc_195_376 : xe_code 195 376 = some (.aload_n 1, []) := kg_195_3 (i := 19) rfl
theorem kc_195_377 : xe_code 195 377 = some (.aload_n 0, []) := kg_195_3 (i := 20) rfl
theorem kc_195_378 : xe_code 195 378 = some (.iload 4, []) := kg_195_3 (i := 21) rfl
theorem kc_195_380 : xe_code 195 380 = some (.iconst 1, []) := kg_195_3 (i := 22) rfl
theorem kc_195_381 : xe_code 195 381 = some (.iadd, []) := kg_195_3 (i := 23) rfl
theorem kc_195_382 : xe_code 195 382 = some (.iaload, []) := kg_195_3 (i := 24) rfl
theorem kc_195_383 : xe_code 195 383 = some (.invokevirtual 37, [101, 1, 458, 0]) := kg_195_3 (i := 25) rfl
theorem kc_195_386 : xe_code 195 386 = some (.pop, []) := kg_195_3 (i := 26) rfl
theorem kc_195_387 : xe_code 195 387 = some (.aload_n 2, []) := kg_195_3 (i := 27) rfl
theorem kc_195_388 : xe_code 195 388 = some (.aload_n 0, []) := kg_195_3 (i := 28) rfl
theorem kc_195_389 : xe_code 195 389 = some (.iload 4, []) := kg_195_3 (i := 29) rfl
theorem kc_195_391 : xe_code 195 391 = some (.iconst 1, []) := kg_195_3 (i := 30) rfl
theorem kc_195_392 : xe_code 195 392 = some (.iadd, []) := kg_195_3 (i := 31) rfl
theorem kc_195_393 : xe_code 195 393 = some (.iaload, []) := kg_195_3 (i := 32) rfl
theorem kc_195_394 : xe_code 195 394 = some (.invokevirtual 41, [21, 1, 1189, 12]) := kg_195_3 (i := 33) rfl
theorem kc_195_397 : xe_code 195 397 = some (.pop, []) := kg_195_3 (i := 34) rfl
theorem kc_195_398 : xe_code 195 398 = some (.goto 1103, [1501]) := kg_195_3 (i := 35) rfl
theorem kc_195_401 : xe_code 195 401 = some (.aload_n 1, []) := kg_195_3 (i := 36) rfl
theorem kc_195_402 : xe_code 195 402 = some (.aload_n 0, []) := kg_195_3 (i := 37) rfl
theorem kc_195_403 : xe_code 195 403 = some (.iload 4, []) := kg_195_3 (i := 38) rfl
theorem kc_195_405 : xe_code 195 405 = some (.iconst 1, []) := kg_195_3 (i := 39) rfl
theorem kc_195_406 : xe_code 195 406 = some (.iadd, []) := kg_195_3 (i := 40) rfl
theorem kc_195_407 : xe_code 195 407 = some (.iaload, []) := kg_195_3 (i := 41) rfl
theorem kc_195_408 : xe_code 195 408 = some (.aload_n 0, []) := kg_195_3 (i := 42) rfl
theorem kc_195_409 : xe_code 195 409 = some (.iload 4, []) := kg_195_3 (i := 43) rfl
theorem kc_195_411 : xe_code 195 411 = some (.iconst 2, []) := kg_195_3 (i := 44) rfl
theorem kc_195_412 : xe_code 195 412 = some (.iadd, []) := kg_195_3 (i := 45) rfl
theorem kc_195_413 : xe_code 195 413 = some (.iaload, []) := kg_195_3 (i := 46) rfl
theorem kc_195_414 : xe_code 195 414 = some (.aload_n 0, []) := kg_195_3 (i := 47) rfl
theorem kc_195_415 : xe_code 195 415 = some (.iload 4, []) := kg_195_4 (i := 0) rfl
theorem kc_195_417 : xe_code 195 417 = some (.iconst 3, []) := kg_195_4 (i := 1) rfl
theorem kc_195_418 : xe_code 195 418 = some (.iadd, []) := kg_195_4 (i := 2) rfl
theorem kc_195_419 : xe_code 195 419 = some (.iaload, []) := kg_195_4 (i := 3) rfl
theorem kc_195_420 : xe_code 195 420 = some (.aload_n 0, []) := kg_195_4 (i := 4) rfl
theorem kc_195_421 : xe_code 195 421 = some (.iload 4, []) := kg_195_4 (i := 5) rfl
theorem kc_195_423 : xe_code 195 423 = some (.iconst 4, []) := kg_195_4 (i := 6) rfl
theorem kc_195_424 : xe_code 195 424 = some (.iadd, []) := kg_195_4 (i := 7) rfl
theorem kc_195_425 : xe_code 195 425 = some (.iaload, []) := kg_195_4 (i := 8) rfl
theorem kc_195_426 : xe_code 195 426 = some (.ifCond .eq 7, [433]) := kg_195_4 (i := 9) rfl
theorem kc_195_429 : xe_code 195 429 = some (.iconst 1, []) := kg_195_4 (i := 10) rfl
theorem kc_195_430 : xe_code 195 430 = some (.goto 4, [434]) := kg_195_4 (i := 11) rfl
theorem kc_195_433 : xe_code 195 433 = some (.iconst 0, []) := kg_195_4 (i := 12) rfl
theorem kc_195_434 : xe_code 195 434 = some (.invokevirtual 42, [103, 4, 468, 0]) := kg_195_4 (i := 13) rfl
theorem kc_195_437 : xe_code 195 437 = some (.pop, []) := kg_195_4 (i := 14) rfl
theorem kc_195_438 : xe_code 195 438 = some (.aload_n 2, []) := kg_195_4 (i := 15) rfl
theorem kc_195_439 : xe_code 195 439 = some (.aload_n 0, []) := kg_195_4 (i := 16) rfl
theorem kc_195_440 : xe_code 195 440 = some (.iload 4, []) := kg_195_4 (i := 17) rfl
theorem kc_195_442 : xe_code 195 442 = some (.iconst 1, []) := kg_195_4 (i := 18) rfl
theorem kc_195_443 : xe_code 195 443 = some (.iadd, []) := kg_195_4 (i := 19) rfl
theorem kc_195_444 : xe_code 195 444 = some (.iaload, []) := kg_195_4 (i := 20) rfl
theorem kc_195_445 : xe_code 195 445 = some (.aload_n 0, []) := kg_195_4 (i := 21) rfl
theorem kc_195_446 : xe_code 195 446 = some (.iload 4, []) := kg_195_4 (i := 22) rfl
theorem kc_195_448 : xe_code 195 448 = some (.iconst 2, []) := kg_195_4 (i := 23) rfl
theorem kc_195_449 : xe_code 195 449 = some (.iadd, []) := kg_195_4 (i := 24) rfl
theorem kc_195_450 : xe_code 195 450 = some (.iaload, []) := kg_195_4 (i := 25) rfl
theorem kc_195_451 : xe_code 195 451 = some (.aload_n 0, []) := kg_195_4 (i := 26) rfl
theorem kc_195_452 : xe_code 195 452 = some (.iload 4, []) := kg_195_4 (i := 27) rfl
theorem kc_195_454 : xe_code 195 454 = some (.iconst 3, []) := kg_195_4 (i := 28) rfl
theorem kc_195_455 : xe_code 195 455 = some (.iadd, []) := kg_195_4 (i := 29) rfl
theorem kc_195_456 : xe_code 195 456 = some (.iaload, []) := kg_195_4 (i := 30) rfl
theorem kc_195_457 : xe_code 195 457 = some (.aload_n 0, []) := kg_195_4 (i := 31) rfl
theorem kc_195_458 : xe_code 195 458 = some (.iload 4, []) := kg_195_4 (i := 32) rfl
theorem kc_195_460 : xe_code 195 460 = some (.iconst 4, []) := kg_195_4 (i := 33) rfl
theorem kc_195_461 : xe_code 195 461 = some (.iadd, []) := kg_195_4 (i := 34) rfl
theorem kc_195_462 : xe_code 195 462 = some (.iaload, []) := kg_195_4 (i := 35) rfl
theorem kc_195_463 : xe_code 195 463 = some (.ifCond .eq 7, [470]) := kg_195_4 (i := 36) rfl
theorem kc_195_466 : xe_code 195 466 = some (.iconst 1, []) := kg_195_4 (i := 37) rfl
theorem kc_195_467 : xe_code 195 467 = some (.goto 4, [471]) := kg_195_4 (i := 38) rfl
theorem kc_195_470 : xe_code 195 470 = some (.iconst 0, []) := kg_195_4 (i := 39) rfl
theorem kc_195_471 : xe_code 195 471 = some (.invokevirtual 46, [23, 4, 1196, 12]) := kg_195_4 (i := 40) rfl
theorem kc_195_474 : xe_code 195 474 = some (.pop, []) := kg_195_4 (i := 41) rfl
theorem kc_195_475 : xe_code 195 475 = some (.goto 1026, [1501]) := kg_195_4 (i := 42) rfl
theorem kc_195_478 : xe_code 195 478 = some (.aload_n 1, []) := kg_195_4 (i := 43) rfl
theorem kc_195_479 : xe_code 195 479 = some (.aload_n 0, []) := kg_195_4 (i := 44) rfl
theorem kc_195_480 : xe_code 195 480 = some (.iload 4, []) := kg_195_4 (i := 45) rfl
theorem kc_195_482 : xe_code 195 482 = some (.iconst 1, []) := kg_195_4 (i := 46) rfl
theorem kc_195_483 : xe_code 195 483 = some (.iadd, []) := kg_195_4 (i := 47) rfl
theorem kc_195_484 : xe_code 195 484 = some (.iaload, []) := kg_195_5 (i := 0) rfl
theorem kc_195_485 : xe_code 195 485 = some (.aload_n 0, []) := kg_195_5 (i := 1) rfl
theorem kc_195_486 : xe_code 195 486 = some (.iload 4, []) := kg_195_5 (i := 2) rfl
theorem kc_195_488 : xe_code 195 488 = some (.iconst 2, []) := kg_195_5 (i := 3) rfl
theorem kc_195_489 : xe_code 195 489 = some (.iadd, []) := kg_195_5 (i := 4) rfl
theorem kc_195_490 : xe_code 195 490 = some (.iaload, []) := kg_195_5 (i := 5) rfl
theorem kc_195_491 : xe_code 195 491 = some (.invokevirtual 47, [106, 2, 480, 0]) := kg_195_5 (i := 6) rfl
theorem kc_195_494 : xe_code 195 494 = some (.pop, []) := kg_195_5 (i := 7) rfl
theorem kc_195_495 : xe_code 195 495 = some (.aload_n 2, []) := kg_195_5 (i := 8) rfl
theorem kc_195_496 : xe_code 195 496 = some (.aload_n 0, []) := kg_195_5 (i := 9) rfl
theorem kc_195_497 : xe_code 195 497 = some (.iload 4, []) := kg_195_5 (i := 10) rfl
theorem kc_195_499 : xe_code 195 499 = some (.iconst 1, []) := kg_195_5 (i := 11) rfl
theorem kc_195_500 : xe_code 195 500 = some (.iadd, []) := kg_195_5 (i := 12) rfl
theorem kc_195_501 : xe_code 195 501 = some (.iaload, []) := kg_195_5 (i := 13) rfl
theorem kc_195_502 : xe_code 195 502 = some (.aload_n 0, []) := kg_195_5 (i := 14) rfl
theorem kc_195_503 : xe_code 195 503 = some (.iload 4, []) := kg_195_5 (i := 15) rfl
theorem kc_195_505 : xe_code 195 505 = some (.iconst 2, []) := kg_195_5 (i := 16) rfl
theorem kc_195_506 : xe_code 195 506 = some (.iadd, []) := kg_195_5 (i := 17) rfl
theorem kc_195_507 : xe_code 195 507 = some (.iaload, []) := kg_195_5 (i := 18) rfl
theorem kc_195_508 : xe_code 195 508 = some (.invokevirtual 50, [25, 2, 1203, 12]) := kg_195_5 (i := 19) rfl
theorem kc_195_511 : xe_code 195 511 = some (.pop, []) := kg_195_5 (i := 20) rfl
theorem kc_195_512 : xe_code 195 512 = some (.goto 989, [1501]) := kg_195_5 (i := 21) rfl
theorem kc_195_515 : xe_code 195 515 = some (.aload_n 1, []) := kg_195_5 (i := 22) rfl
theorem kc_195_516 : xe_code 195 516 = some (.aload_n 0, []) := kg_195_5 (i := 23) rfl
theorem kc_195_517 : xe_code 195 517 = some (.iload 4, []) := kg_195_5 (i := 24) rfl
theorem kc_195_519 : xe_code 195 519 = some (.iconst 1, []) := kg_195_5 (i := 25) rfl
theorem kc_195_520 : xe_code 195 520 = some (.iadd, []) := kg_195_5 (i := 26) rfl
theorem kc_195_521 : xe_code 195 521 = some (.iaload, []) := kg_195_5 (i := 27) rfl
theorem kc_195_522 : xe_code 195 522 = some (.invokevirtual 51, [110, 1, 499, 0]) := kg_195_5 (i := 28) rfl
theorem kc_195_525 : xe_code 195 525 = some (.pop, []) := kg_195_5 (i := 29) rfl
theorem kc_195_526 : xe_code 195 526 = some (.aload_n 2, []) := kg_195_5 (i := 30) rfl
theorem kc_195_527 : xe_code 195 527 = some (.aload_n 0, []) := kg_195_5 (i := 31) rfl
theorem kc_195_528 : xe_code 195 528 = some (.iload 4, []) := kg_195_5 (i := 32) rfl
theorem kc_195_530 : xe_code 195 530 = some (.iconst 1, []) := kg_195_5 (i := 33) rfl
theorem kc_195_531 : xe_code 195 531 = some (.iadd, []) := kg_195_5 (i := 34) rfl
theorem kc_195_532 : xe_code 195 532 = some (.iaload, []) := kg_195_5 (i := 35) rfl
theorem kc_195_533 : xe_code 195 533 = some (.invokevirtual 54, [27, 1, 1211, 12]) := kg_195_5 (i := 36) rfl
theorem kc_195_536 : xe_code 195 536 = some (.pop, []) := kg_195_5 (i := 37) rfl
theorem kc_195_537 : xe_code 195 537 = some (.goto 964, [1501]) := kg_195_5 (i := 38) rfl
theorem kc_195_540 : xe_code 195 540 = some (.aload_n 1, []) := kg_195_5 (i := 39) rfl
theorem kc_195_541 : xe_code 195 541 = some (.aload_n 0, []) := kg_195_5 (i := 40) rfl
theorem kc_195_542 : xe_code 195 542 = some (.iload 4, []) := kg_195_5 (i := 41) rfl
theorem kc_195_544 : xe_code 195 544 = some (.iconst 1, []) := kg_195_5 (i := 42) rfl
theorem kc_195_545 : xe_code 195 545 = some (.iadd, []) := kg_195_5 (i := 43) rfl
theorem kc_195_546 : xe_code 195 546 = some (.iaload, []) := kg_195_5 (i := 44) rfl
theorem kc_195_547 : xe_code 195 547 = some (.invokevirtual 55, [111, 1, 503, 0]) := kg_195_5 (i := 45) rfl
theorem kc_195_550 : xe_code 195 550 = some (.pop, []) := kg_195_5 (i := 46) rfl
theorem kc_195_551 : xe_code 195 551 = some (.aload_n 2, []) := kg_195_5 (i := 47) rfl
theorem kc_195_552 : xe_code 195 552 = some (.aload_n 0, []) := kg_195_6 (i := 0) rfl
theorem kc_195_553 : xe_code 195 553 = some (.iload 4, []) := kg_195_6 (i := 1) rfl
theorem kc_195_555 : xe_code 195 555 = some (.iconst 1, []) := kg_195_6 (i := 2) rfl
theorem kc_195_556 : xe_code 195 556 = some (.iadd, []) := kg_195_6 (i := 3) rfl
theorem kc_195_557 : xe_code 195 557 = some (.iaload, []) := kg_195_6 (i := 4) rfl
theorem kc_195_558 : xe_code 195 558 = some (.invokevirtual 58, [28, 1, 1215, 12]) := kg_195_6 (i := 5) rfl
theorem kc_195_561 : xe_code 195 561 = some (.pop, []) := kg_195_6 (i := 6) rfl
theorem kc_195_562 : xe_code 195 562 = some (.goto 939, [1501]) := kg_195_6 (i := 7) rfl
theorem kc_195_565 : xe_code 195 565 = some (.aload_n 1, []) := kg_195_6 (i := 8) rfl
theorem kc_195_566 : xe_code 195 566 = some (.aload_n 0, []) := kg_195_6 (i := 9) rfl
theorem kc_195_567 : xe_code 195 567 = some (.iload 4, []) := kg_195_6 (i := 10) rfl
theorem kc_195_569 : xe_code 195 569 = some (.iconst 1, []) := kg_195_6 (i := 11) rfl
theorem kc_195_570 : xe_code 195 570 = some (.iadd, []) := kg_195_6 (i := 12) rfl
theorem kc_195_571 : xe_code 195 571 = some (.iaload, []) := kg_195_6 (i := 13) rfl
theorem kc_195_572 : xe_code 195 572 = some (.invokevirtual 59, [112, 1, 507, 0]) := kg_195_6 (i := 14) rfl
theorem kc_195_575 : xe_code 195 575 = some (.pop, []) := kg_195_6 (i := 15) rfl
theorem kc_195_576 : xe_code 195 576 = some (.aload_n 2, []) := kg_195_6 (i := 16) rfl
theorem kc_195_577 : xe_code 195 577 = some (.aload_n 0, []) := kg_195_6 (i := 17) rfl
theorem kc_195_578 : xe_code 195 578 = some (.iload 4, []) := kg_195_6 (i := 18) rfl
theorem kc_195_580 : xe_code 195 580 = some (.iconst 1, []) := kg_195_6 (i := 19) rfl
theorem kc_195_581 : xe_code 195 581 = some (.iadd, []) := kg_195_6 (i := 20) rfl
theorem kc_195_582 : xe_code 195 582 = some (.iaload, []) := kg_195_6 (i := 21) rfl
theorem kc_195_583 : xe_code 195 583 = some (.invokevirtual 62, [29, 1, 1219, 12]) := kg_195_6 (i := 22) rfl
theorem kc_195_586 : xe_code 195 586 = some (.pop, []) := kg_195_6 (i := 23) rfl
theorem kc_195_587 : xe_code 195 587 = some (.goto 914, [1501]) := kg_195_6 (i := 24) rfl
theorem kc_195_590 : xe_code 195 590 = some (.aload_n 1, []) := kg_195_6 (i := 25) rfl
theorem kc_195_591 : xe_code 195 591 = some (.aload_n 0, []) := kg_195_6 (i := 26) rfl
theorem kc_195_592 : xe_code 195 592 = some (.iload 4, []) := kg_195_6 (i := 27) rfl
theorem kc_195_594 : xe_code 195 594 = some (.iconst 1, []) := kg_195_6 (i := 28) rfl
theorem kc_195_595 : xe_code 195 595 = some (.iadd, []) := kg_195_6 (i := 29) rfl
theorem kc_195_596 : xe_code 195 596 = some (.iaload, []) := kg_195_6 (i := 30) rfl
theorem kc_195_597 : xe_code 195 597 = some (.aload_n 0, []) := kg_195_6 (i := 31) rfl
theorem kc_195_598 : xe_code 195 598 = some (.iload 4, []) := kg_195_6 (i := 32) rfl
theorem kc_195_600 : xe_code 195 600 = some (.iconst 2, []) := kg_195_6 (i := 33) rfl
theorem kc_195_601 : xe_code 195 601 = some (.iadd, []) := kg_195_6 (i := 34) rfl
theorem kc_195_602 : xe_code 195 602 = some (.iaload, []) := kg_195_6 (i := 35) rfl
theorem kc_195_603 : xe_code 195 603 = some (.aload_n 0, []) := kg_195_6 (i := 36) rfl
theorem kc_195_604 : xe_code 195 604 = some (.iload 4, []) := kg_195_6 (i := 37) rfl
theorem kc_195_606 : xe_code 195 606 = some (.iconst 3, []) := kg_195_6 (i := 38) rfl
theorem kc_195_607 : xe_code 195 607 = some (.iadd, []) := kg_195_6 (i := 39) rfl
theorem kc_195_608 : xe_code 195 608 = some (.iaload, []) := kg_195_6 (i := 40) rfl
theorem kc_195_609 : xe_code 195 609 = some (.aload_n 0, []) := kg_195_6 (i := 41) rfl
theorem kc_195_610 : xe_code 195 610 = some (.iload 4, []) := kg_195_6 (i := 42) rfl
theorem kc_195_612 : xe_code 195 612 = some (.iconst 4, []) := kg_195_6 (i := 43) rfl
theorem kc_195_613 : xe_code 195 613 = some (.iadd, []) := kg_195_6 (i := 44) rfl
theorem kc_195_614 : xe_code 195 614 = some (.iaload, []) := kg_195_6 (i := 45) rfl
theorem kc_195_615 : xe_code 195 615 = some (.invokevirtual 63, [113, 4, 511, 0]) := kg_195_6 (i := 46) rfl
theorem kc_195_618 : xe_code 195 618 = some (.aload_n 2, []) := kg_195_6 (i := 47) rfl
theorem kc_195_619 : xe_code 195 619 = some (.aload_n 0, []) := kg_195_7 (i := 0) rfl
theorem kc_195_620 : xe_code 195 620 = some (.iload 4, []) := kg_195_7 (i := 1) rfl
theorem kc_195_622 : xe_code 195 622 = some (.iconst 1, []) := kg_195_7 (i := 2) rfl
theorem kc_195_623 : xe_code 195 623 = some (.iadd, []) := kg_195_7 (i := 3) rfl
theorem kc_195_624 : xe_code 195 624 = some (.iaload, []) := kg_195_7 (i := 4) rfl
theorem kc_195_625 : xe_code 195 625 = some (.aload_n 0, []) := kg_195_7 (i := 5) rfl
theorem kc_195_626 : xe_code 195 626 = some (.iload 4, []) := kg_195_7 (i := 6) rfl
theorem kc_195_628 : xe_code 195 628 = some (.iconst 2, []) := kg_195_7 (i := 7) rfl
theorem kc_195_629 : xe_code 195 629 = some (.iadd, []) := kg_195_7 (i := 8) rfl
theorem kc_195_630 : xe_code 195 630 = some (.iaload, []) := kg_195_7 (i := 9) rfl
theorem kc_195_631 : xe_code 195 631 = some (.aload_n 0, []) := kg_195_7 (i := 10) rfl
theorem kc_195_632 : xe_code 195 632 = some (.iload 4, []) := kg_195_7 (i := 11) rfl
theorem kc_195_634 : xe_code 195 634 = some (.iconst 3, []) := kg_195_7 (i := 12) rfl
theorem kc_195_635 : xe_code 195 635 = some (.iadd, []) := kg_195_7 (i := 13) rfl
theorem kc_195_636 : xe_code 195 636 = some (.iaload, []) := kg_195_7 (i := 14) rfl
theorem kc_195_637 : xe_code 195 637 = some (.aload_n 0, []) := kg_195_7 (i := 15) rfl
theorem kc_195_638 : xe_code 195 638 = some (.iload 4, []) := kg_195_7 (i := 16) rfl
theorem kc_195_640 : xe_code 195 640 = some (.iconst 4, []) := kg_195_7 (i := 17) rfl
theorem kc_195_641 : xe_code 195 641 = some (.iadd, []) := kg_195_7 (i := 18) rfl
theorem kc_195_642 : xe_code 195 642 = some (.iaload, []) := kg_195_7 (i := 19) rfl
theorem kc_195_643 : xe_code 195 643 = some (.invokevirtual 67, [30, 4, 1223, 12]) := kg_195_7 (i := 20) rfl
theorem kc_195_646 : xe_code 195 646 = some (.if_icmp .eq 855, [1501]) := kg_195_7 (i := 21) rfl
theorem kc_195_649 : xe_code 195 649 = some (.iconst 0, []) := kg_195_7 (i := 22) rfl
theorem kc_195_650 : xe_code 195 650 = some (.ireturn, []) := kg_195_7 (i := 23) rfl
theorem kc_195_651 : xe_code 195 651 = some (.aload_n 1, []) := kg_195_7 (i := 24) rfl
theorem kc_195_652 : xe_code 195 652 = some (.aload_n 0, []) := kg_195_7 (i := 25) rfl
theorem kc_195_653 : xe_code 195 653 = some (.iload 4, []) := kg_195_7 (i := 26) rfl
theorem kc_195_655 : xe_code 195 655 = some (.iconst 1, []) := kg_195_7 (i := 27) rfl
theorem kc_195_656 : xe_code 195 656 = some (.iadd, []) := kg_195_7 (i := 28) rfl
theorem kc_195_657 : xe_code 195 657 = some (.iaload, []) := kg_195_7 (i := 29) rfl
theorem kc_195_658 : xe_code 195 658 = some (.aload_n 0, []) := kg_195_7 (i := 30) rfl
theorem kc_195_659 : xe_code 195 659 = some (.iload 4, []) := kg_195_7 (i := 31) rfl
theorem kc_195_661 : xe_code 195 661 = some (.iconst 2, []) := kg_195_7 (i := 32) rfl
theorem kc_195_662 : xe_code 195 662 = some (.iadd, []) := kg_195_7 (i := 33) rfl
theorem kc_195_663 : xe_code 195 663 = some (.iaload, []) := kg_195_7 (i := 34) rfl
theorem kc_195_664 : xe_code 195 664 = some (.aload_n 0, []) := kg_195_7 (i := 35) rfl
theorem kc_195_665 : xe_code 195 665 = some (.iload 4, []) := kg_195_7 (i := 36) rfl
theorem kc_195_667 : xe_code 195 667 = some (.iconst 3, []) := kg_195_7 (i := 37) rfl
theorem kc_195_668 : xe_code 195 668 = some (.iadd, []) := kg_195_7 (i := 38) rfl
theorem kc_195_669 : xe_code 195 669 = some (.iaload, []) := kg_195_7 (i := 39) rfl
theorem kc_195_670 : xe_code 195 670 = some (.aload_n 0, []) := kg_195_7 (i := 40) rfl
theorem kc_195_671 : xe_code 195 671 = some (.iload 4, []) := kg_195_7 (i := 41) rfl
theorem kc_195_673 : xe_code 195 673 = some (.iconst 4, []) := kg_195_7 (i := 42) rfl
theorem kc_195_674 : xe_code 195 674 = some (.iadd, []) := kg_195_7 (i := 43) rfl
theorem kc_195_675 : xe_code 195 675 = some (.iaload, []) := kg_195_7 (i := 44) rfl
theorem kc_195_676 : xe_code 195 676 = some (.invokevirtual 68, [116, 4, 525, 0]) := kg_195_7 (i := 45) rfl
theorem kc_195_679 : xe_code 195 679 = some (.pop, []) := kg_195_7 (i := 46) rfl
theorem kc_195_680 : xe_code 195 680 = some (.aload_n 2, []) := kg_195_7 (i := 47) rfl
theorem kc_195_681 : xe_code 195 681 = some (.aload_n 0, []) := kg_195_8 (i := 0) rfl
theorem kc_195_682 : xe_code 195 682 = some (.iload 4, []) := kg_195_8 (i := 1) rfl
theorem kc_195_684 : xe_code 195 684 = some (.iconst 1, []) := kg_195_8 (i := 2) rfl
theorem kc_195_685 : xe_code 195 685 = some (.iadd, []) := kg_195_8 (i := 3) rfl
theorem kc_195_686 : xe_code 195 686 = some (.iaload, []) := kg_195_8 (i := 4) rfl
theorem kc_195_687 : xe_code 195 687 = some (.aload_n 0, []) := kg_195_8 (i := 5) rfl
theorem kc_195_688 : xe_code 195 688 = some (.iload 4, []) := kg_195_8 (i := 6) rfl
theorem kc_195_690 : xe_code 195 690 = some (.iconst 2, []) := kg_195_8 (i := 7) rfl
theorem kc_195_691 : xe_code 195 691 = some (.iadd, []) := kg_195_8 (i := 8) rfl
theorem kc_195_692 : xe_code 195 692 = some (.iaload, []) := kg_195_8 (i := 9) rfl
theorem kc_195_693 : xe_code 195 693 = some (.aload_n 0, []) := kg_195_8 (i := 10) rfl
theorem kc_195_694 : xe_code 195 694 = some (.iload 4, []) := kg_195_8 (i := 11) rfl
theorem kc_195_696 : xe_code 195 696 = some (.iconst 3, []) := kg_195_8 (i := 12) rfl
theorem kc_195_697 : xe_code 195 697 = some (.iadd, []) := kg_195_8 (i := 13) rfl
theorem kc_195_698 : xe_code 195 698 = some (.iaload, []) := kg_195_8 (i := 14) rfl
theorem kc_195_699 : xe_code 195 699 = some (.aload_n 0, []) := kg_195_8 (i := 15) rfl
theorem kc_195_700 : xe_code 195 700 = some (.iload 4, []) := kg_195_8 (i := 16) rfl
theorem kc_195_702 : xe_code 195 702 = some (.iconst 4, []) := kg_195_8 (i := 17) rfl
theorem kc_195_703 : xe_code 195 703 = some (.iadd, []) := kg_195_8 (i := 18) rfl
theorem kc_195_704 : xe_code 195 704 = some (.iaload, []) := kg_195_8 (i := 19) rfl
theorem kc_195_705 : xe_code 195 705 = some (.invokevirtual 71, [32, 4, 1231, 12]) := kg_195_8 (i := 20) rfl
theorem kc_195_708 : xe_code 195 708 = some (.pop, []) := kg_195_8 (i := 21) rfl
theorem kc_195_709 : xe_code 195 709 = some (.goto 792, [1501]) := kg_195_8 (i := 22) rfl
theorem kc_195_712 : xe_code 195 712 = some (.aload_n 1, []) := kg_195_8 (i := 23) rfl
theorem kc_195_713 : xe_code 195 713 = some (.aload_n 0, []) := kg_195_8 (i := 24) rfl
theorem kc_195_714 : xe_code 195 714 = some (.iload 4, []) := kg_195_8 (i := 25) rfl
theorem kc_195_716 : xe_code 195 716 = some (.iconst 1, []) := kg_195_8 (i := 26) rfl
theorem kc_195_717 : xe_code 195 717 = some (.iadd, []) := kg_195_8 (i := 27) rfl
theorem kc_195_718 : xe_code 195 718 = some (.iaload, []) := kg_195_8 (i := 28) rfl
theorem kc_195_719 : xe_code 195 719 = some (.aload_n 0, []) := kg_195_8 (i := 29) rfl
theorem kc_195_720 : xe_code 195 720 = some (.iload 4, []) := kg_195_8 (i := 30) rfl
theorem kc_195_722 : xe_code 195 722 = some (.iconst 2, []) := kg_195_8 (i := 31) rfl
theorem kc_195_723 : xe_code 195 723 = some (.iadd, []) := kg_195_8 (i := 32) rfl
theorem kc_195_724 : xe_code 195 724 = some (.iaload, []) := kg_195_8 (i := 33) rfl
theorem kc_195_725 : xe_code 195 725 = some (.ifCond .eq 7, [732]) := kg_195_8 (i := 34) rfl
theorem kc_195_728 : xe_code 195 728 = some (.iconst 1, []) := kg_195_8 (i := 35) rfl
theorem kc_195_729 : xe_code 195 729 = some (.goto 4, [733]) := kg_195_8 (i := 36) rfl
theorem kc_195_732 : xe_code 195 732 = some (.iconst 0, []) := kg_195_8 (i := 37) rfl
theorem kc_195_733 : xe_code 195 733 = some (.invokevirtual 72, [120, 2, 540, 0]) := kg_195_8 (i := 38) rfl
theorem kc_195_736 : xe_code 195 736 = some (.pop, []) := kg_195_8 (i := 39) rfl
theorem kc_195_737 : xe_code 195 737 = some (.aload_n 2, []) := kg_195_8 (i := 40) rfl
theorem kc_195_738 : xe_code 195 738 = some (.aload_n 0, []) := kg_195_8 (i := 41) rfl
theorem kc_195_739 : xe_code 195 739 = some (.iload 4, []) := kg_195_8 (i := 42) rfl
theorem kc_195_741 : xe_code 195 741 = some (.iconst 1, []) := kg_195_8 (i := 43) rfl
theorem kc_195_742 : xe_code 195 742 = some (.iadd, []) := kg_195_8 (i := 44) rfl
theorem kc_195_743 : xe_code 195 743 = some (.iaload, []) := kg_195_8 (i := 45) rfl
theorem kc_195_744 : xe_code 195 744 = some (.aload_n 0, []) := kg_195_8 (i := 46) rfl
theorem kc_195_745 : xe_code 195 745 = some (.iload 4, []) := kg_195_8 (i := 47) rfl
theorem kc_195_747 : xe_code 195 747 = some (.iconst 2, []) := kg_195_9 (i := 0) rfl
theorem kc_195_748 : xe_code 195 748 = some (.iadd, []) := kg_195_9 (i := 1) rfl
theorem kc_195_749 : xe_code 195 749 = some (.iaload, []) := kg_195_9 (i := 2) rfl
theorem kc_195_750 : xe_code 195 750 = some (.ifCond .eq 7, [757]) := kg_195_9 (i := 3) rfl
theorem kc_195_753 : xe_code 195 753 = some (.iconst 1, []) := kg_195_9 (i := 4) rfl
theorem kc_195_754 : xe_code 195 754 = some (.goto 4, [758]) := kg_195_9 (i := 5) rfl
theorem kc_195_757 : xe_code 195 757 = some (.iconst 0, []) := kg_195_9 (i := 6) rfl
theorem kc_195_758 : xe_code 195 758 = some (.invokevirtual 76, [33, 2, 1235, 12]) := kg_195_9 (i := 7) rfl
theorem kc_195_761 : xe_code 195 761 = some (.pop, []) := kg_195_9 (i := 8) rfl
theorem kc_195_762 : xe_code 195 762 = some (.goto 739, [1501]) := kg_195_9 (i := 9) rfl
theorem kc_195_765 : xe_code 195 765 = some (.aload_n 1, []) := kg_195_9 (i := 10) rfl
theorem kc_195_766 : xe_code 195 766 = some (.aload_n 0, []) := kg_195_9 (i := 11) rfl
theorem kc_195_767 : xe_code 195 767 = some (.iload 4, []) := kg_195_9 (i := 12) rfl
theorem kc_195_769 : xe_code 195 769 = some (.iconst 1, []) := kg_195_9 (i := 13) rfl
theorem kc_195_770 : xe_code 195 770 = some (.iadd, []) := kg_195_9 (i := 14) rfl
theorem kc_195_771 : xe_code 195 771 = some (.iaload, []) := kg_195_9 (i := 15) rfl
theorem kc_195_772 : xe_code 195 772 = some (.invokevirtual 77, [121, 1, 544, 0]) := kg_195_9 (i := 16) rfl
theorem kc_195_775 : xe_code 195 775 = some (.pop, []) := kg_195_9 (i := 17) rfl
theorem kc_195_776 : xe_code 195 776 = some (.aload_n 2, []) := kg_195_9 (i := 18) rfl
theorem kc_195_777 : xe_code 195 777 = some (.aload_n 0, []) := kg_195_9 (i := 19) rfl
theorem kc_195_778 : xe_code 195 778 = some (.iload 4, []) := kg_195_9 (i := 20) rfl
theorem kc_195_780 : xe_code 195 780 = some (.iconst 1, []) := kg_195_9 (i := 21) rfl
theorem kc_195_781 : xe_code 195 781 = some (.iadd, []) := kg_195_9 (i := 22) rfl
theorem kc_195_782 : xe_code 195 782 = some (.iaload, []) := kg_195_9 (i := 23) rfl
theorem kc_195_783 : xe_code 195 783 = some (.invokevirtual 80, [34, 1, 1239, 12]) := kg_195_9 (i := 24) rfl
theorem kc_195_786 : xe_code 195 786 = some (.pop, []) := kg_195_9 (i := 25) rfl
theorem kc_195_787 : xe_code 195 787 = some (.goto 714, [1501]) := kg_195_9 (i := 26) rfl
theorem kc_195_790 : xe_code 195 790 = some (.aload_n 1, []) := kg_195_9 (i := 27) rfl
theorem kc_195_791 : xe_code 195 791 = some (.aload_n 0, []) := kg_195_9 (i := 28) rfl
theorem kc_195_792 : xe_code 195 792 = some (.iload 4, []) := kg_195_9 (i := 29) rfl
theorem kc_195_794 : xe_code 195 794 = some (.iconst 1, []) := kg_195_9 (i := 30) rfl
theorem kc_195_795 : xe_code 195 795 = some (.iadd, []) := kg_195_9 (i := 31) rfl
theorem kc_195_796 : xe_code 195 796 = some (.iaload, []) := kg_195_9 (i := 32) rfl
theorem kc_195_797 : xe_code 195 797 = some (.aload_n 3, []) := kg_195_9 (i := 33) rfl
theorem kc_195_798 : xe_code 195 798 = some (.invokestatic 81, [194, 3, 866, 0]) := kg_195_9 (i := 34) rfl
theorem kc_195_801 : xe_code 195 801 = some (.istore 5, []) := kg_195_9 (i := 35) rfl
theorem kc_195_803 : xe_code 195 803 = some (.aload_n 2, []) := kg_195_9 (i := 36) rfl
theorem kc_195_804 : xe_code 195 804 = some (.aload_n 0, []) := kg_195_9 (i := 37) rfl
theorem kc_195_805 : xe_code 195 805 = some (.iload 4, []) := kg_195_9 (i := 38) rfl
theorem kc_195_807 : xe_code 195 807 = some (.iconst 1, []) := kg_195_9 (i := 39) rfl
theorem kc_195_808 : xe_code 195 808 = some (.iadd, []) := kg_195_9 (i := 40) rfl
theorem kc_195_809 : xe_code 195 809 = some (.iaload, []) := kg_195_9 (i := 41) rfl
theorem kc_195_810 : xe_code 195 810 = some (.invokevirtual 86, [41, 1, 1266, 12]) := kg_195_9 (i := 42) rfl
theorem kc_195_813 : xe_code 195 813 = some (.lstore 6, []) := kg_195_9 (i := 43) rfl
theorem kc_195_815 : xe_code 195 815 = some (.goto 686, [1501]) := kg_195_9 (i := 44) rfl
theorem kc_195_818 : xe_code 195 818 = some (.aload_n 1, []) := kg_195_9 (i := 45) rfl
theorem kc_195_819 : xe_code 195 819 = some (.aload_n 0, []) := kg_195_9 (i := 46) rfl
theorem kc_195_820 : xe_code 195 820 = some (.iload 4, []) := kg_195_9 (i := 47) rfl
theorem kc_195_822 : xe_code 195 822 = some (.iconst 1, []) := kg_195_10 (i := 0) rfl
theorem kc_195_823 : xe_code 195 823 = some (.iadd, []) := kg_195_10 (i := 1) rfl
theorem kc_195_824 : xe_code 195 824 = some (.iaload, []) := kg_195_10 (i := 2) rfl
theorem kc_195_825 : xe_code 195 825 = some (.aload_n 0, []) := kg_195_10 (i := 3) rfl
theorem kc_195_826 : xe_code 195 826 = some (.iload 4, []) := kg_195_10 (i := 4) rfl
theorem kc_195_828 : xe_code 195 828 = some (.iconst 2, []) := kg_195_10 (i := 5) rfl
theorem kc_195_829 : xe_code 195 829 = some (.iadd, []) := kg_195_10 (i := 6) rfl
theorem kc_195_830 : xe_code 195 830 = some (.iaload, []) := kg_195_10 (i := 7) rfl
theorem kc_195_831 : xe_code 195 831 = some (.invokevirtual 87, [137, 2, 613, 0]) := kg_195_10 (i := 8) rfl
theorem kc_195_834 : xe_code 195 834 = some (.pop, []) := kg_195_10 (i := 9) rfl
theorem kc_195_835 : xe_code 195 835 = some (.aload_n 2, []) := kg_195_10 (i := 10) rfl
theorem kc_195_836 : xe_code 195 836 = some (.aload_n 0, []) := kg_195_10 (i := 11) rfl
theorem kc_195_837 : xe_code 195 837 = some (.iload 4, []) := kg_195_10 (i := 12) rfl
theorem kc_195_839 : xe_code 195 839 = some (.iconst 1, []) := kg_195_10 (i := 13) rfl
theorem kc_195_840 : xe_code 195 840 = some (.iadd, []) := kg_195_10 (i := 14) rfl
theorem kc_195_841 : xe_code 195 841 = some (.iaload, []) := kg_195_10 (i := 15) rfl
theorem kc_195_842 : xe_code 195 842 = some (.aload_n 0, []) := kg_195_10 (i := 16) rfl
theorem kc_195_843 : xe_code 195 843 = some (.iload 4, []) := kg_195_10 (i := 17) rfl
theorem kc_195_845 : xe_code 195 845 = some (.iconst 2, []) := kg_195_10 (i := 18) rfl
theorem kc_195_846 : xe_code 195 846 = some (.iadd, []) := kg_195_10 (i := 19) rfl
theorem kc_195_847 : xe_code 195 847 = some (.iaload, []) := kg_195_10 (i := 20) rfl
theorem kc_195_848 : xe_code 195 848 = some (.invokevirtual 90, [46, 2, 1286, 12]) := kg_195_10 (i := 21) rfl
theorem kc_195_851 : xe_code 195 851 = some (.pop, []) := kg_195_10 (i := 22) rfl
theorem kc_195_852 : xe_code 195 852 = some (.goto 649, [1501]) := kg_195_10 (i := 23) rfl
theorem kc_195_855 : xe_code 195 855 = some (.aload_n 1, []) := kg_195_10 (i := 24) rfl
theorem kc_195_856 : xe_code 195 856 = some (.invokevirtual 91, [144, 0, 644, 0]) := kg_195_10 (i := 25) rfl
theorem kc_195_859 : xe_code 195 859 = some (.pop, []) := kg_195_10 (i := 26) rfl
theorem kc_195_860 : xe_code 195 860 = some (.aload_n 2, []) := kg_195_10 (i := 27) rfl
theorem kc_195_861 : xe_code 195 861 = some (.invokevirtual 95, [47, 0, 1290, 12]) := kg_195_10 (i := 28) rfl
theorem kc_195_864 : xe_code 195 864 = some (.pop, []) := kg_195_10 (i := 29) rfl
theorem kc_195_865 : xe_code 195 865 = some (.goto 636, [1501]) := kg_195_10 (i := 30) rfl
theorem kc_195_868 : xe_code 195 868 = some (.aload_n 1, []) := kg_195_10 (i := 31) rfl
theorem kc_195_869 : xe_code 195 869 = some (.aload_n 0, []) := kg_195_10 (i := 32) rfl
theorem kc_195_870 : xe_code 195 870 = some (.iload 4, []) := kg_195_10 (i := 33) rfl
theorem kc_195_872 : xe_code 195 872 = some (.iconst 1, []) := kg_195_10 (i := 34) rfl
theorem kc_195_873 : xe_code 195 873 = some (.iadd, []) := kg_195_10 (i := 35) rfl
theorem kc_195_874 : xe_code 195 874 = some (.iaload, []) := kg_195_10 (i := 36) rfl
theorem kc_195_875 : xe_code 195 875 = some (.invokevirtual 96, [148, 1, 667, 0]) := kg_195_10 (i := 37) rfl
theorem kc_195_878 : xe_code 195 878 = some (.pop, []) := kg_195_10 (i := 38) rfl
theorem kc_195_879 : xe_code 195 879 = some (.aload_n 2, []) := kg_195_10 (i := 39) rfl
theorem kc_195_880 : xe_code 195 880 = some (.aload_n 0, []) := kg_195_10 (i := 40) rfl
theorem kc_195_881 : xe_code 195 881 = some (.iload 4, []) := kg_195_10 (i := 41) rfl
theorem kc_195_883 : xe_code 195 883 = some (.iconst 1, []) := kg_195_10 (i := 42) rfl
theorem kc_195_884 : xe_code 195 884 = some (.iadd, []) := kg_195_10 (i := 43) rfl
theorem kc_195_885 : xe_code 195 885 = some (.iaload, []) := kg_195_10 (i := 44) rfl
theorem kc_195_886 : xe_code 195 886 = some (.invokevirtual 99, [50, 1, 1301, 12]) := kg_195_10 (i := 45) rfl
theorem kc_195_889 : xe_code 195 889 = some (.pop, []) := kg_195_10 (i := 46) rfl
theorem kc_195_890 : xe_code 195 890 = some (.goto 611, [1501]) := kg_195_10 (i := 47) rfl
theorem kc_195_893 : xe_code 195 893 = some (.aload_n 1, []) := kg_195_11 (i := 0) rfl
theorem kc_195_894 : xe_code 195 894 = some (.invokevirtual 100, [151, 0, 679, 0]) := kg_195_11 (i := 1) rfl
theorem kc_195_897 : xe_code 195 897 = some (.pop, []) := kg_195_11 (i := 2) rfl
theorem kc_195_898 : xe_code 195 898 = some (.aload_n 2, []) := kg_195_11 (i := 3) rfl
theorem kc_195_899 : xe_code 195 899 = some (.invokevirtual 103, [51, 0, 1305, 12]) := kg_195_11 (i := 4) rfl
theorem kc_195_902 : xe_code 195 902 = some (.pop, []) := kg_195_11 (i := 5) rfl
theorem kc_195_903 : xe_code 195 903 = some (.goto 598, [1501]) := kg_195_11 (i := 6) rfl
theorem kc_195_906 : xe_code 195 906 = some (.aload_n 1, []) := kg_195_11 (i := 7) rfl
theorem kc_195_907 : xe_code 195 907 = some (.aload_n 0, []) := kg_195_11 (i := 8) rfl
theorem kc_195_908 : xe_code 195 908 = some (.iload 4, []) := kg_195_11 (i := 9) rfl
theorem kc_195_910 : xe_code 195 910 = some (.iconst 1, []) := kg_195_11 (i := 10) rfl
theorem kc_195_911 : xe_code 195 911 = some (.iadd, []) := kg_195_11 (i := 11) rfl
theorem kc_195_912 : xe_code 195 912 = some (.iaload, []) := kg_195_11 (i := 12) rfl
theorem kc_195_913 : xe_code 195 913 = some (.aload_n 0, []) := kg_195_11 (i := 13) rfl
theorem kc_195_914 : xe_code 195 914 = some (.iload 4, []) := kg_195_11 (i := 14) rfl
theorem kc_195_916 : xe_code 195 916 = some (.iconst 2, []) := kg_195_11 (i := 15) rfl
theorem kc_195_917 : xe_code 195 917 = some (.iadd, []) := kg_195_11 (i := 16) rfl
theorem kc_195_918 : xe_code 195 918 = some (.iaload, []) := kg_195_11 (i := 17) rfl
theorem kc_195_919 : xe_code 195 919 = some (.invokevirtual 104, [155, 2, 702, 0]) := kg_195_11 (i := 18) rfl
theorem kc_195_922 : xe_code 195 922 = some (.pop, []) := kg_195_11 (i := 19) rfl
theorem kc_195_923 : xe_code 195 923 = some (.aload_n 2, []) := kg_195_11 (i := 20) rfl
theorem kc_195_924 : xe_code 195 924 = some (.aload_n 0, []) := kg_195_11 (i := 21) rfl
theorem kc_195_925 : xe_code 195 925 = some (.iload 4, []) := kg_195_11 (i := 22) rfl
theorem kc_195_927 : xe_code 195 927 = some (.iconst 1, []) := kg_195_11 (i := 23) rfl
theorem kc_195_928 : xe_code 195 928 = some (.iadd, []) := kg_195_11 (i := 24) rfl
theorem kc_195_929 : xe_code 195 929 = some (.iaload, []) := kg_195_11 (i := 25) rfl
theorem kc_195_930 : xe_code 195 930 = some (.aload_n 0, []) := kg_195_11 (i := 26) rfl
theorem kc_195_931 : xe_code 195 931 = some (.iload 4, []) := kg_195_11 (i := 27) rfl
theorem kc_195_933 : xe_code 195 933 = some (.iconst 2, []) := kg_195_11 (i := 28) rfl
theorem kc_195_934 : xe_code 195 934 = some (.iadd, []) := kg_195_11 (i := 29) rfl
theorem kc_195_935 : xe_code 195 935 = some (.iaload, []) := kg_195_11 (i := 30) rfl
theorem kc_195_936 : xe_code 195 936 = some (.invokevirtual 107, [55, 2, 1321, 12]) := kg_195_11 (i := 31) rfl
theorem kc_195_939 : xe_code 195 939 = some (.pop, []) := kg_195_11 (i := 32) rfl
theorem kc_195_940 : xe_code 195 940 = some (.goto 561, [1501]) := kg_195_11 (i := 33) rfl
theorem kc_195_943 : xe_code 195 943 = some (.aload_n 1, []) := kg_195_11 (i := 34) rfl
theorem kc_195_944 : xe_code 195 944 = some (.aload_n 0, []) := kg_195_11 (i := 35) rfl
theorem kc_195_945 : xe_code 195 945 = some (.iload 4, []) := kg_195_11 (i := 36) rfl
theorem kc_195_947 : xe_code 195 947 = some (.iconst 1, []) := kg_195_11 (i := 37) rfl
theorem kc_195_948 : xe_code 195 948 = some (.iadd, []) := kg_195_11 (i := 38) rfl
theorem kc_195_949 : xe_code 195 949 = some (.iaload, []) := kg_195_11 (i := 39) rfl
theorem kc_195_950 : xe_code 195 950 = some (.aload_n 0, []) := kg_195_11 (i := 40) rfl
theorem kc_195_951 : xe_code 195 951 = some (.iload 4, []) := kg_195_11 (i := 41) rfl
theorem kc_195_953 : xe_code 195 953 = some (.iconst 2, []) := kg_195_11 (i := 42) rfl
theorem kc_195_954 : xe_code 195 954 = some (.iadd, []) := kg_195_11 (i := 43) rfl
theorem kc_195_955 : xe_code 195 955 = some (.iaload, []) := kg_195_11 (i := 44) rfl
theorem kc_195_956 : xe_code 195 956 = some (.ifCond .eq 7, [963]) := kg_195_11 (i := 45) rfl
theorem kc_195_959 : xe_code 195 959 = some (.iconst 1, []) := kg_195_11 (i := 46) rfl
theorem kc_195_960 : xe_code 195 960 = some (.goto 4, [964]) := kg_195_11 (i := 47) rfl
theorem kc_195_963 : xe_code 195 963 = some (.iconst 0, []) := kg_195_12 (i := 0) rfl
theorem kc_195_964 : xe_code 195 964 = some (.invokevirtual 108, [157, 2, 710, 0]) := kg_195_12 (i := 1) rfl
theorem kc_195_967 : xe_code 195 967 = some (.pop, []) := kg_195_12 (i := 2) rfl
theorem kc_195_968 : xe_code 195 968 = some (.aload_n 2, []) := kg_195_12 (i := 3) rfl
theorem kc_195_969 : xe_code 195 969 = some (.aload_n 0, []) := kg_195_12 (i := 4) rfl
theorem kc_195_970 : xe_code 195 970 = some (.iload 4, []) := kg_195_12 (i := 5) rfl
theorem kc_195_972 : xe_code 195 972 = some (.iconst 1, []) := kg_195_12 (i := 6) rfl
theorem kc_195_973 : xe_code 195 973 = some (.iadd, []) := kg_195_12 (i := 7) rfl
theorem kc_195_974 : xe_code 195 974 = some (.iaload, []) := kg_195_12 (i := 8) rfl
theorem kc_195_975 : xe_code 195 975 = some (.aload_n 0, []) := kg_195_12 (i := 9) rfl
theorem kc_195_976 : xe_code 195 976 = some (.iload 4, []) := kg_195_12 (i := 10) rfl
theorem kc_195_978 : xe_code 195 978 = some (.iconst 2, []) := kg_195_12 (i := 11) rfl
theorem kc_195_979 : xe_code 195 979 = some (.iadd, []) := kg_195_12 (i := 12) rfl
theorem kc_195_980 : xe_code 195 980 = some (.iaload, []) := kg_195_12 (i := 13) rfl
theorem kc_195_981 : xe_code 195 981 = some (.ifCond .eq 7, [988]) := kg_195_12 (i := 14) rfl
theorem kc_195_984 : xe_code 195 984 = some (.iconst 1, []) := kg_195_12 (i := 15) rfl
theorem kc_195_985 : xe_code 195 985 = some (.goto 4, [989]) := kg_195_12 (i := 16) rfl
theorem kc_195_988 : xe_code 195 988 = some (.iconst 0, []) := kg_195_12 (i := 17) rfl
theorem kc_195_989 : xe_code 195 989 = some (.invokevirtual 111, [56, 2, 1325, 12]) := kg_195_12 (i := 18) rfl
theorem kc_195_992 : xe_code 195 992 = some (.pop, []) := kg_195_12 (i := 19) rfl
theorem kc_195_993 : xe_code 195 993 = some (.goto 508, [1501]) := kg_195_12 (i := 20) rfl
theorem kc_195_996 : xe_code 195 996 = some (.aload_n 1, []) := kg_195_12 (i := 21) rfl
theorem kc_195_997 : xe_code 195 997 = some (.invokevirtual 112, [158, 0, 714, 0]) := kg_195_12 (i := 22) rfl
theorem kc_195_1000 : xe_code 195 1000 = some (.pop, []) := kg_195_12 (i := 23) rfl
theorem kc_195_1001 : xe_code 195 1001 = some (.aload_n 2, []) := kg_195_12 (i := 24) rfl
theorem kc_195_1002 : xe_code 195 1002 = some (.invokevirtual 115, [57, 0, 1329, 12]) := kg_195_12 (i := 25) rfl
theorem kc_195_1005 : xe_code 195 1005 = some (.pop, []) := kg_195_12 (i := 26) rfl
theorem kc_195_1006 : xe_code 195 1006 = some (.goto 495, [1501]) := kg_195_12 (i := 27) rfl
theorem kc_195_1009 : xe_code 195 1009 = some (.aload_n 1, []) := kg_195_12 (i := 28) rfl
theorem kc_195_1010 : xe_code 195 1010 = some (.invokevirtual 116, [160, 0, 726, 0]) := kg_195_12 (i := 29) rfl
theorem kc_195_1013 : xe_code 195 1013 = some (.pop, []) := kg_195_12 (i := 30) rfl
theorem kc_195_1014 : xe_code 195 1014 = some (.aload_n 2, []) := kg_195_12 (i := 31) rfl
theorem kc_195_1015 : xe_code 195 1015 = some (.invokevirtual 119, [58, 0, 1333, 12]) := kg_195_12 (i := 32) rfl
theorem kc_195_1018 : xe_code 195 1018 = some (.pop, []) := kg_195_12 (i := 33) rfl
theorem kc_195_1019 : xe_code 195 1019 = some (.goto 482, [1501]) := kg_195_12 (i := 34) rfl
theorem kc_195_1022 : xe_code 195 1022 = some (.aload_n 1, []) := kg_195_12 (i := 35) rfl
theorem kc_195_1023 : xe_code 195 1023 = some (.aload_n 0, []) := kg_195_12 (i := 36) rfl
theorem kc_195_1024 : xe_code 195 1024 = some (.iload 4, []) := kg_195_12 (i := 37) rfl
theorem kc_195_1026 : xe_code 195 1026 = some (.iconst 1, []) := kg_195_12 (i := 38) rfl
theorem kc_195_1027 : xe_code 195 1027 = some (.iadd, []) := kg_195_12 (i := 39) rfl
theorem kc_195_1028 : xe_code 195 1028 = some (.iaload, []) := kg_195_12 (i := 40) rfl
theorem kc_195_1029 : xe_code 195 1029 = some (.aload_n 0, []) := kg_195_12 (i := 41) rfl
theorem kc_195_1030 : xe_code 195 1030 = some (.iload 4, []) := kg_195_12 (i := 42) rfl
theorem kc_195_1032 : xe_code 195 1032 = some (.iconst 2, []) := kg_195_12 (i := 43) rfl
theorem kc_195_1033 : xe_code 195 1033 = some (.iadd, []) := kg_195_12 (i := 44) rfl
theorem kc_195_1034 : xe_code 195 1034 = some (.iaload, []) := kg_195_12 (i := 45) rfl
theorem kc_195_1035 : xe_code 195 1035 = some (.aload_n 0, []) := kg_195_12 (i := 46) rfl
theorem kc_195_1036 : xe_code 195 1036 = some (.iload 4, []) := kg_195_12 (i := 47) rfl
theorem kc_195_1038 : xe_code 195 1038 = some (.iconst 3, []) := kg_195_13 (i := 0) rfl
theorem kc_195_1039 : xe_code 195 1039 = some (.iadd, []) := kg_195_13 (i := 1) rfl
theorem kc_195_1040 : xe_code 195 1040 = some (.iaload, []) := kg_195_13 (i := 2) rfl
theorem kc_195_1041 : xe_code 195 1041 = some (.aload_n 0, []) := kg_195_13 (i := 3) rfl
theorem kc_195_1042 : xe_code 195 1042 = some (.iload 4, []) := kg_195_13 (i := 4) rfl
theorem kc_195_1044 : xe_code 195 1044 = some (.iconst 4, []) := kg_195_13 (i := 5) rfl
theorem kc_195_1045 : xe_code 195 1045 = some (.iadd, []) := kg_195_13 (i := 6) rfl
theorem kc_195_1046 : xe_code 195 1046 = some (.iaload, []) := kg_195_13 (i := 7) rfl
theorem kc_195_1047 : xe_code 195 1047 = some (.aload_n 0, []) := kg_195_13 (i := 8) rfl
theorem kc_195_1048 : xe_code 195 1048 = some (.iload 4, []) := kg_195_13 (i := 9) rfl
theorem kc_195_1050 : xe_code 195 1050 = some (.iconst 5, []) := kg_195_13 (i := 10) rfl
theorem kc_195_1051 : xe_code 195 1051 = some (.iadd, []) := kg_195_13 (i := 11) rfl
theorem kc_195_1052 : xe_code 195 1052 = some (.iaload, []) := kg_195_13 (i := 12) rfl
theorem kc_195_1053 : xe_code 195 1053 = some (.invokevirtual 120, [163, 5, 742, 0]) := kg_195_13 (i := 13) rfl
theorem kc_195_1056 : xe_code 195 1056 = some (.pop, []) := kg_195_13 (i := 14) rfl
theorem kc_195_1057 : xe_code 195 1057 = some (.aload_n 2, []) := kg_195_13 (i := 15) rfl
theorem kc_195_1058 : xe_code 195 1058 = some (.aload_n 0, []) := kg_195_13 (i := 16) rfl
theorem kc_195_1059 : xe_code 195 1059 = some (.iload 4, []) := kg_195_13 (i := 17) rfl
theorem kc_195_1061 : xe_code 195 1061 = some (.iconst 1, []) := kg_195_13 (i := 18) rfl
theorem kc_195_1062 : xe_code 195 1062 = some (.iadd, []) := kg_195_13 (i := 19) rfl
theorem kc_195_1063 : xe_code 195 1063 = some (.iaload, []) := kg_195_13 (i := 20) rfl
theorem kc_195_1064 : xe_code 195 1064 = some (.aload_n 0, []) := kg_195_13 (i := 21) rfl
theorem kc_195_1065 : xe_code 195 1065 = some (.iload 4, []) := kg_195_13 (i := 22) rfl
theorem kc_195_1067 : xe_code 195 1067 = some (.iconst 2, []) := kg_195_13 (i := 23) rfl
theorem kc_195_1068 : xe_code 195 1068 = some (.iadd, []) := kg_195_13 (i := 24) rfl
theorem kc_195_1069 : xe_code 195 1069 = some (.iaload, []) := kg_195_13 (i := 25) rfl
theorem kc_195_1070 : xe_code 195 1070 = some (.aload_n 0, []) := kg_195_13 (i := 26) rfl
theorem kc_195_1071 : xe_code 195 1071 = some (.iload 4, []) := kg_195_13 (i := 27) rfl
theorem kc_195_1073 : xe_code 195 1073 = some (.iconst 3, []) := kg_195_13 (i := 28) rfl
theorem kc_195_1074 : xe_code 195 1074 = some (.iadd, []) := kg_195_13 (i := 29) rfl
theorem kc_195_1075 : xe_code 195 1075 = some (.iaload, []) := kg_195_13 (i := 30) rfl
theorem kc_195_1076 : xe_code 195 1076 = some (.aload_n 0, []) := kg_195_13 (i := 31) rfl
theorem kc_195_1077 : xe_code 195 1077 = some (.iload 4, []) := kg_195_13 (i := 32) rfl
theorem kc_195_1079 : xe_code 195 1079 = some (.iconst 4, []) := kg_195_13 (i := 33) rfl
theorem kc_195_1080 : xe_code 195 1080 = some (.iadd, []) := kg_195_13 (i := 34) rfl
theorem kc_195_1081 : xe_code 195 1081 = some (.iaload, []) := kg_195_13 (i := 35) rfl
theorem kc_195_1082 : xe_code 195 1082 = some (.aload_n 0, []) := kg_195_13 (i := 36) rfl
theorem kc_195_1083 : xe_code 195 1083 = some (.iload 4, []) := kg_195_13 (i := 37) rfl
theorem kc_195_1085 : xe_code 195 1085 = some (.iconst 5, []) := kg_195_13 (i := 38) rfl
theorem kc_195_1086 : xe_code 195 1086 = some (.iadd, []) := kg_195_13 (i := 39) rfl
theorem kc_195_1087 : xe_code 195 1087 = some (.iaload, []) := kg_195_13 (i := 40) rfl
theorem kc_195_1088 : xe_code 195 1088 = some (.invokevirtual 124, [61, 5, 1345, 12]) := kg_195_13 (i := 41) rfl
theorem kc_195_1091 : xe_code 195 1091 = some (.pop, []) := kg_195_13 (i := 42) rfl
theorem kc_195_1092 : xe_code 195 1092 = some (.goto 409, [1501]) := kg_195_13 (i := 43) rfl
theorem kc_195_1095 : xe_code 195 1095 = some (.aload_n 1, []) := kg_195_13 (i := 44) rfl
theorem kc_195_1096 : xe_code 195 1096 = some (.aload_n 0, []) := kg_195_13 (i := 45) rfl
theorem kc_195_1097 : xe_code 195 1097 = some (.iload 4, []) := kg_195_13 (i := 46) rfl
theorem kc_195_1099 : xe_code 195 1099 = some (.iconst 1, []) := kg_195_13 (i := 47) rfl
theorem kc_195_1100 : xe_code 195 1100 = some (.iadd, []) := kg_195_14 (i := 0) rfl
theorem kc_195_1101 : xe_code 195 1101 = some (.iaload, []) := kg_195_14 (i := 1) rfl
theorem kc_195_1102 : xe_code 195 1102 = some (.aload_n 0, []) := kg_195_14 (i := 2) rfl
theorem kc_195_1103 : xe_code 195 1103 = some (.iload 4, []) := kg_195_14 (i := 3) rfl
theorem kc_195_1105 : xe_code 195 1105 = some (.iconst 2, []) := kg_195_14 (i := 4) rfl
theorem kc_195_1106 : xe_code 195 1106 = some (.iadd, []) := kg_195_14 (i := 5) rfl
theorem kc_195_1107 : xe_code 195 1107 = some (.iaload, []) := kg_195_14 (i := 6) rfl
theorem kc_195_1108 : xe_code 195 1108 = some (.invokevirtual 125, [165, 2, 750, 0]) := kg_195_14 (i := 7) rfl
theorem kc_195_1111 : xe_code 195 1111 = some (.pop, []) := kg_195_14 (i := 8) rfl
theorem kc_195_1112 : xe_code 195 1112 = some (.aload_n 2, []) := kg_195_14 (i := 9) rfl
theorem kc_195_1113 : xe_code 195 1113 = some (.aload_n 0, []) := kg_195_14 (i := 10) rfl
theorem kc_195_1114 : xe_code 195 1114 = some (.iload 4, []) := kg_195_14 (i := 11) rfl
theorem kc_195_1116 : xe_code 195 1116 = some (.iconst 1, []) := kg_195_14 (i := 12) rfl
theorem kc_195_1117 : xe_code 195 1117 = some (.iadd, []) := kg_195_14 (i := 13) rfl
theorem kc_195_1118 : xe_code 195 1118 = some (.iaload, []) := kg_195_14 (i := 14) rfl
theorem kc_195_1119 : xe_code 195 1119 = some (.aload_n 0, []) := kg_195_14 (i := 15) rfl
theorem kc_195_1120 : xe_code 195 1120 = some (.iload 4, []) := kg_195_14 (i := 16) rfl
theorem kc_195_1122 : xe_code 195 1122 = some (.iconst 2, []) := kg_195_14 (i := 17) rfl
theorem kc_195_1123 : xe_code 195 1123 = some (.iadd, []) := kg_195_14 (i := 18) rfl
theorem kc_195_1124 : xe_code 195 1124 = some (.iaload, []) := kg_195_14 (i := 19) rfl
theorem kc_195_1125 : xe_code 195 1125 = some (.invokevirtual 128, [62, 2, 1349, 12]) := kg_195_14 (i := 20) rfl
theorem kc_195_1128 : xe_code 195 1128 = some (.pop, []) := kg_195_14 (i := 21) rfl
theorem kc_195_1129 : xe_code 195 1129 = some (.goto 372, [1501]) := kg_195_14 (i := 22) rfl
theorem kc_195_1132 : xe_code 195 1132 = some (.aload_n 1, []) := kg_195_14 (i := 23) rfl
theorem kc_195_1133 : xe_code 195 1133 = some (.aload_n 0, []) := kg_195_14 (i := 24) rfl
theorem kc_195_1134 : xe_code 195 1134 = some (.iload 4, []) := kg_195_14 (i := 25) rfl
theorem kc_195_1136 : xe_code 195 1136 = some (.iconst 1, []) := kg_195_14 (i := 26) rfl
theorem kc_195_1137 : xe_code 195 1137 = some (.iadd, []) := kg_195_14 (i := 27) rfl
theorem kc_195_1138 : xe_code 195 1138 = some (.iaload, []) := kg_195_14 (i := 28) rfl
theorem kc_195_1139 : xe_code 195 1139 = some (.aload_n 0, []) := kg_195_14 (i := 29) rfl
theorem kc_195_1140 : xe_code 195 1140 = some (.iload 4, []) := kg_195_14 (i := 30) rfl
theorem kc_195_1142 : xe_code 195 1142 = some (.iconst 2, []) := kg_195_14 (i := 31) rfl
theorem kc_195_1143 : xe_code 195 1143 = some (.iadd, []) := kg_195_14 (i := 32) rfl
theorem kc_195_1144 : xe_code 195 1144 = some (.iaload, []) := kg_195_14 (i := 33) rfl
theorem kc_195_1145 : xe_code 195 1145 = some (.aload_n 0, []) := kg_195_14 (i := 34) rfl
theorem kc_195_1146 : xe_code 195 1146 = some (.iload 4, []) := kg_195_14 (i := 35) rfl
theorem kc_195_1148 : xe_code 195 1148 = some (.iconst 3, []) := kg_195_14 (i := 36) rfl
theorem kc_195_1149 : xe_code 195 1149 = some (.iadd, []) := kg_195_14 (i := 37) rfl
theorem kc_195_1150 : xe_code 195 1150 = some (.iaload, []) := kg_195_14 (i := 38) rfl
theorem kc_195_1151 : xe_code 195 1151 = some (.aload_n 0, []) := kg_195_14 (i := 39) rfl
theorem kc_195_1152 : xe_code 195 1152 = some (.iload 4, []) := kg_195_14 (i := 40) rfl
theorem kc_195_1154 : xe_code 195 1154 = some (.iconst 4, []) := kg_195_14 (i := 41) rfl
theorem kc_195_1155 : xe_code 195 1155 = some (.iadd, []) := kg_195_14 (i := 42) rfl
theorem kc_195_1156 : xe_code 195 1156 = some (.iaload, []) := kg_195_14 (i := 43) rfl
theorem kc_195_1157 : xe_code 195 1157 = some (.invokevirtual 129, [167, 4, 758, 0]) := kg_195_14 (i := 44) rfl
theorem kc_195_1160 : xe_code 195 1160 = some (.pop, []) := kg_195_14 (i := 45) rfl
theorem kc_195_1161 : xe_code 195 1161 = some (.aload_n 2, []) := kg_195_14 (i := 46) rfl
theorem kc_195_1162 : xe_code 195 1162 = some (.aload_n 0, []) := kg_195_14 (i := 47) rfl
theorem kc_195_1163 : xe_code 195 1163 = some (.iload 4, []) := kg_195_15 (i := 0) rfl
theorem kc_195_1165 : xe_code 195 1165 = some (.iconst 1, []) := kg_195_15 (i := 1) rfl
theorem kc_195_1166 : xe_code 195 1166 = some (.iadd, []) := kg_195_15 (i := 2) rfl
theorem kc_195_1167 : xe_code 195 1167 = some (.iaload, []) := kg_195_15 (i := 3) rfl
theorem kc_195_1168 : xe_code 195 1168 = some (.aload_n 0, []) := kg_195_15 (i := 4) rfl
theorem kc_195_1169 : xe_code 195 1169 = some (.iload 4, []) := kg_195_15 (i := 5) rfl
theorem kc_195_1171 : xe_code 195 1171 = some (.iconst 2, []) := kg_195_15 (i := 6) rfl
theorem kc_195_1172 : xe_code 195 1172 = some (.iadd, []) := kg_195_15 (i := 7) rfl
theorem kc_195_1173 : xe_code 195 1173 = some (.iaload, []) := kg_195_15 (i := 8) rfl
theorem kc_195_1174 : xe_code 195 1174 = some (.aload_n 0, []) := kg_195_15 (i := 9) rfl
theorem kc_195_1175 : xe_code 195 1175 = some (.iload 4, []) := kg_195_15 (i := 10) rfl
theorem kc_195_1177 : xe_code 195 1177 = some (.iconst 3, []) := kg_195_15 (i := 11) rfl
theorem kc_195_1178 : xe_code 195 1178 = some (.iadd, []) := kg_195_15 (i := 12) rfl
theorem kc_195_1179 : xe_code 195 1179 = some (.iaload, []) := kg_195_15 (i := 13) rfl
theorem kc_195_1180 : xe_code 195 1180 = some (.aload_n 0, []) := kg_195_15 (i := 14) rfl
theorem kc_195_1181 : xe_code 195 1181 = some (.iload 4, []) := kg_195_15 (i := 15) rfl
theorem kc_195_1183 : xe_code 195 1183 = some (.iconst 4, []) := kg_195_15 (i := 16) rfl
theorem kc_195_1184 : xe_code 195 1184 = some (.iadd, []) := kg_195_15 (i := 17) rfl
theorem kc_195_1185 : xe_code 195 1185 = some (.iaload, []) := kg_195_15 (i := 18) rfl
theorem kc_195_1186 : xe_code 195 1186 = some (.invokevirtual 132, [64, 4, 1357, 12]) := kg_195_15 (i := 19) rfl
theorem kc_195_1189 : xe_code 195 1189 = some (.pop, []) := kg_195_15 (i := 20) rfl
theorem kc_195_1190 : xe_code 195 1190 = some (.goto 311, [1501]) := kg_195_15 (i := 21) rfl
theorem kc_195_1193 : xe_code 195 1193 = some (.aload_n 1, []) := kg_195_15 (i := 22) rfl
theorem kc_195_1194 : xe_code 195 1194 = some (.invokevirtual 133, [169, 0, 766, 0]) := kg_195_15 (i := 23) rfl
theorem kc_195_1197 : xe_code 195 1197 = some (.pop, []) := kg_195_15 (i := 24) rfl
theorem kc_195_1198 : xe_code 195 1198 = some (.aload_n 2, []) := kg_195_15 (i := 25) rfl
theorem kc_195_1199 : xe_code 195 1199 = some (.invokevirtual 136, [65, 0, 1361, 12]) := kg_195_15 (i := 26) rfl
theorem kc_195_1202 : xe_code 195 1202 = some (.pop, []) := kg_195_15 (i := 27) rfl
theorem kc_195_1203 : xe_code 195 1203 = some (.goto 298, [1501]) := kg_195_15 (i := 28) rfl
theorem kc_195_1206 : xe_code 195 1206 = some (.aload_n 1, []) := kg_195_15 (i := 29) rfl
theorem kc_195_1207 : xe_code 195 1207 = some (.aload_n 0, []) := kg_195_15 (i := 30) rfl
theorem kc_195_1208 : xe_code 195 1208 = some (.iload 4, []) := kg_195_15 (i := 31) rfl
theorem kc_195_1210 : xe_code 195 1210 = some (.iconst 1, []) := kg_195_15 (i := 32) rfl
theorem kc_195_1211 : xe_code 195 1211 = some (.iadd, []) := kg_195_15 (i := 33) rfl
theorem kc_195_1212 : xe_code 195 1212 = some (.iaload, []) := kg_195_15 (i := 34) rfl
theorem kc_195_1213 : xe_code 195 1213 = some (.invokevirtual 137, [172, 1, 779, 0]) := kg_195_15 (i := 35) rfl
theorem kc_195_1216 : xe_code 195 1216 = some (.pop, []) := kg_195_15 (i := 36) rfl
theorem kc_195_1217 : xe_code 195 1217 = some (.aload_n 2, []) := kg_195_15 (i := 37) rfl
theorem kc_195_1218 : xe_code 195 1218 = some (.aload_n 0, []) := kg_195_15 (i := 38) rfl
theorem kc_195_1219 : xe_code 195 1219 = some (.iload 4, []) := kg_195_15 (i := 39) rfl
theorem kc_195_1221 : xe_code 195 1221 = some (.iconst 1, []) := kg_195_15 (i := 40) rfl
theorem kc_195_1222 : xe_code 195 1222 = some (.iadd, []) := kg_195_15 (i := 41) rfl
theorem kc_195_1223 : xe_code 195 1223 = some (.iaload, []) := kg_195_15 (i := 42) rfl
theorem kc_195_1224 : xe_code 195 1224 = some (.invokevirtual 140, [68, 1, 1373, 12]) := kg_195_15 (i := 43) rfl
theorem kc_195_1227 : xe_code 195 1227 = some (.pop, []) := kg_195_15 (i := 44) rfl
theorem kc_195_1228 : xe_code 195 1228 = some (.goto 273, [1501]) := kg_195_15 (i := 45) rfl
theorem kc_195_1231 : xe_code 195 1231 = some (.aload_n 1, []) := kg_195_15 (i := 46) rfl
theorem kc_195_1232 : xe_code 195 1232 = some (.aload_n 0, []) := kg_195_15 (i := 47) rfl
theorem kc_195_1233 : xe_code 195 1233 = some (.iload 4, []) := kg_195_16 (i := 0) rfl
theorem kc_195_1235 : xe_code 195 1235 = some (.iconst 1, []) := kg_195_16 (i := 1) rfl
theorem kc_195_1236 : xe_code 195 1236 = some (.iadd, []) := kg_195_16 (i := 2) rfl
theorem kc_195_1237 : xe_code 195 1237 = some (.iaload, []) := kg_195_16 (i := 3) rfl
theorem kc_195_1238 : xe_code 195 1238 = some (.aload_n 0, []) := kg_195_16 (i := 4) rfl
theorem kc_195_1239 : xe_code 195 1239 = some (.iload 4, []) := kg_195_16 (i := 5) rfl
theorem kc_195_1241 : xe_code 195 1241 = some (.iconst 2, []) := kg_195_16 (i := 6) rfl
theorem kc_195_1242 : xe_code 195 1242 = some (.iadd, []) := kg_195_16 (i := 7) rfl
theorem kc_195_1243 : xe_code 195 1243 = some (.iaload, []) := kg_195_16 (i := 8) rfl
theorem kc_195_1244 : xe_code 195 1244 = some (.aload_n 0, []) := kg_195_16 (i := 9) rfl
theorem kc_195_1245 : xe_code 195 1245 = some (.iload 4, []) := kg_195_16 (i := 10) rfl
theorem kc_195_1247 : xe_code 195 1247 = some (.iconst 3, []) := kg_195_16 (i := 11) rfl
theorem kc_195_1248 : xe_code 195 1248 = some (.iadd, []) := kg_195_16 (i := 12) rfl
theorem kc_195_1249 : xe_code 195 1249 = some (.iaload, []) := kg_195_16 (i := 13) rfl
theorem kc_195_1250 : xe_code 195 1250 = some (.aload_n 0, []) := kg_195_16 (i := 14) rfl
theorem kc_195_1251 : xe_code 195 1251 = some (.iload 4, []) := kg_195_16 (i := 15) rfl
theorem kc_195_1253 : xe_code 195 1253 = some (.iconst 4, []) := kg_195_16 (i := 16) rfl
theorem kc_195_1254 : xe_code 195 1254 = some (.iadd, []) := kg_195_16 (i := 17) rfl
theorem kc_195_1255 : xe_code 195 1255 = some (.iaload, []) := kg_195_16 (i := 18) rfl
theorem kc_195_1256 : xe_code 195 1256 = some (.invokevirtual 141, [177, 4, 800, 0]) := kg_195_16 (i := 19) rfl
theorem kc_195_1259 : xe_code 195 1259 = some (.pop, []) := kg_195_16 (i := 20) rfl
theorem kc_195_1260 : xe_code 195 1260 = some (.aload_n 2, []) := kg_195_16 (i := 21) rfl
theorem kc_195_1261 : xe_code 195 1261 = some (.aload_n 0, []) := kg_195_16 (i := 22) rfl
theorem kc_195_1262 : xe_code 195 1262 = some (.iload 4, []) := kg_195_16 (i := 23) rfl
theorem kc_195_1264 : xe_code 195 1264 = some (.iconst 1, []) := kg_195_16 (i := 24) rfl
theorem kc_195_1265 : xe_code 195 1265 = some (.iadd, []) := kg_195_16 (i := 25) rfl
theorem kc_195_1266 : xe_code 195 1266 = some (.iaload, []) := kg_195_16 (i := 26) rfl
theorem kc_195_1267 : xe_code 195 1267 = some (.aload_n 0, []) := kg_195_16 (i := 27) rfl
theorem kc_195_1268 : xe_code 195 1268 = some (.iload 4, []) := kg_195_16 (i := 28) rfl
theorem kc_195_1270 : xe_code 195 1270 = some (.iconst 2, []) := kg_195_16 (i := 29) rfl
theorem kc_195_1271 : xe_code 195 1271 = some (.iadd, []) := kg_195_16 (i := 30) rfl
theorem kc_195_1272 : xe_code 195 1272 = some (.iaload, []) := kg_195_16 (i := 31) rfl
theorem kc_195_1273 : xe_code 195 1273 = some (.aload_n 0, []) := kg_195_16 (i := 32) rfl
theorem kc_195_1274 : xe_code 195 1274 = some (.iload 4, []) := kg_195_16 (i := 33) rfl
theorem kc_195_1276 : xe_code 195 1276 = some (.iconst 3, []) := kg_195_16 (i := 34) rfl
theorem kc_195_1277 : xe_code 195 1277 = some (.iadd, []) := kg_195_16 (i := 35) rfl
theorem kc_195_1278 : xe_code 195 1278 = some (.iaload, []) := kg_195_16 (i := 36) rfl
theorem kc_195_1279 : xe_code 195 1279 = some (.aload_n 0, []) := kg_195_16 (i := 37) rfl
theorem kc_195_1280 : xe_code 195 1280 = some (.iload 4, []) := kg_195_16 (i := 38) rfl
theorem kc_195_1282 : xe_code 195 1282 = some (.iconst 4, []) := kg_195_16 (i := 39) rfl
theorem kc_195_1283 : xe_code 195 1283 = some (.iadd, []) := kg_195_16 (i := 40) rfl
theorem kc_195_1284 : xe_code 195 1284 = some (.iaload, []) := kg_195_16 (i := 41) rfl
theorem kc_195_1285 : xe_code 195 1285 = some (.invokevirtual 144, [70, 4, 1381, 12]) := kg_195_16 (i := 42) rfl
theorem kc_195_1288 : xe_code 195 1288 = some (.pop, []) := kg_195_16 (i := 43) rfl
theorem kc_195_1289 : xe_code 195 1289 = some (.goto 212, [1501]) := kg_195_16 (i := 44) rfl
theorem kc_195_1292 : xe_code 195 1292 = some (.aload_n 1, []) := kg_195_16 (i := 45) rfl
theorem kc_195_1293 : xe_code 195 1293 = some (.aload_n 0, []) := kg_195_16 (i := 46) rfl
theorem kc_195_1294 : xe_code 195 1294 = some (.iload 4, []) := kg_195_16 (i := 47) rfl
theorem kc_195_1296 : xe_code 195 1296 = some (.iconst 1, []) := kg_195_17 (i := 0) rfl
theorem kc_195_1297 : xe_code 195 1297 = some (.iadd, []) := kg_195_17 (i := 1) rfl
theorem kc_195_1298 : xe_code 195 1298 = some (.iaload, []) := kg_195_17 (i := 2) rfl
theorem kc_195_1299 : xe_code 195 1299 = some (.ifCond .eq 7, [1306]) := kg_195_17 (i := 3) rfl
theorem kc_195_1302 : xe_code 195 1302 = some (.iconst 1, []) := kg_195_17 (i := 4) rfl
theorem kc_195_1303 : xe_code 195 1303 = some (.goto 4, [1307]) := kg_195_17 (i := 5) rfl
theorem kc_195_1306 : xe_code 195 1306 = some (.iconst 0, []) := kg_195_17 (i := 6) rfl
theorem kc_195_1307 : xe_code 195 1307 = some (.invokevirtual 145, [179, 1, 808, 0]) := kg_195_17 (i := 7) rfl
theorem kc_195_1310 : xe_code 195 1310 = some (.pop, []) := kg_195_17 (i := 8) rfl
theorem kc_195_1311 : xe_code 195 1311 = some (.aload_n 2, []) := kg_195_17 (i := 9) rfl
theorem kc_195_1312 : xe_code 195 1312 = some (.aload_n 0, []) := kg_195_17 (i := 10) rfl
theorem kc_195_1313 : xe_code 195 1313 = some (.iload 4, []) := kg_195_17 (i := 11) rfl
theorem kc_195_1315 : xe_code 195 1315 = some (.iconst 1, []) := kg_195_17 (i := 12) rfl
theorem kc_195_1316 : xe_code 195 1316 = some (.iadd, []) := kg_195_17 (i := 13) rfl
theorem kc_195_1317 : xe_code 195 1317 = some (.iaload, []) := kg_195_17 (i := 14) rfl
theorem kc_195_1318 : xe_code 195 1318 = some (.ifCond .eq 7, [1325]) := kg_195_17 (i := 15) rfl
theorem kc_195_1321 : xe_code 195 1321 = some (.iconst 1, []) := kg_195_17 (i := 16) rfl
theorem kc_195_1322 : xe_code 195 1322 = some (.goto 4, [1326]) := kg_195_17 (i := 17) rfl
theorem kc_195_1325 : xe_code 195 1325 = some (.iconst 0, []) := kg_195_17 (i := 18) rfl
theorem kc_195_1326 : xe_code 195 1326 = some (.invokevirtual 149, [71, 1, 1385, 12]) := kg_195_17 (i := 19) rfl
theorem kc_195_1329 : xe_code 195 1329 = some (.pop, []) := kg_195_17 (i := 20) rfl
theorem kc_195_1330 : xe_code 195 1330 = some (.goto 171, [1501]) := kg_195_17 (i := 21) rfl
theorem kc_195_1333 : xe_code 195 1333 = some (.aload_n 1, []) := kg_195_17 (i := 22) rfl
theorem kc_195_1334 : xe_code 195 1334 = some (.aload_n 0, []) := kg_195_17 (i := 23) rfl
theorem kc_195_1335 : xe_code 195 1335 = some (.iload 4, []) := kg_195_17 (i := 24) rfl
theorem kc_195_1337 : xe_code 195 1337 = some (.iconst 1, []) := kg_195_17 (i := 25) rfl
theorem kc_195_1338 : xe_code 195 1338 = some (.iadd, []) := kg_195_17 (i := 26) rfl
theorem kc_195_1339 : xe_code 195 1339 = some (.iaload, []) := kg_195_17 (i := 27) rfl
theorem kc_195_1340 : xe_code 195 1340 = some (.ifCond .eq 7, [1347]) := kg_195_17 (i := 28) rfl
theorem kc_195_1343 : xe_code 195 1343 = some (.iconst 1, []) := kg_195_17 (i := 29) rfl
theorem kc_195_1344 : xe_code 195 1344 = some (.goto 4, [1348]) := kg_195_17 (i := 30) rfl
theorem kc_195_1347 : xe_code 195 1347 = some (.iconst 0, []) := kg_195_17 (i := 31) rfl
theorem kc_195_1348 : xe_code 195 1348 = some (.aload_n 0, []) := kg_195_17 (i := 32) rfl
theorem kc_195_1349 : xe_code 195 1349 = some (.iload 4, []) := kg_195_17 (i := 33) rfl
theorem kc_195_1351 : xe_code 195 1351 = some (.iconst 2, []) := kg_195_17 (i := 34) rfl
theorem kc_195_1352 : xe_code 195 1352 = some (.iadd, []) := kg_195_17 (i := 35) rfl
theorem kc_195_1353 : xe_code 195 1353 = some (.iaload, []) := kg_195_17 (i := 36) rfl
theorem kc_195_1354 : xe_code 195 1354 = some (.aload_n 0, []) := kg_195_17 (i := 37) rfl
theorem kc_195_1355 : xe_code 195 1355 = some (.iload 4, []) := kg_195_17 (i := 38) rfl
theorem kc_195_1357 : xe_code 195 1357 = some (.iconst 3, []) := kg_195_17 (i := 39) rfl
theorem kc_195_1358 : xe_code 195 1358 = some (.iadd, []) := kg_195_17 (i := 40) rfl
theorem kc_195_1359 : xe_code 195 1359 = some (.iaload, []) := kg_195_17 (i := 41) rfl
theorem kc_195_1360 : xe_code 195 1360 = some (.ifCond .eq 7, [1367]) := kg_195_17 (i := 42) rfl
theorem kc_195_1363 : xe_code 195 1363 = some (.iconst 1, []) := kg_195_17 (i := 43) rfl
theorem kc_195_1364 : xe_code 195 1364 = some (.goto 4, [1368]) := kg_195_17 (i := 44) rfl
theorem kc_195_1367 : xe_code 195 1367 = some (.iconst 0, []) := kg_195_17 (i := 45) rfl
theorem kc_195_1368 : xe_code 195 1368 = some (.invokevirtual 150, [180, 3, 812, 0]) := kg_195_17 (i := 46) rfl
theorem kc_195_1371 : xe_code 195 1371 = some (.pop, []) := kg_195_17 (i := 47) rfl
theorem kc_195_1372 : xe_code 195 1372 = some (.aload_n 2, []) := kg_195_18 (i := 0) rfl
theorem kc_195_1373 : xe_code 195 1373 = some (.aload_n 0, []) := kg_195_18 (i := 1) rfl
theorem kc_195_1374 : xe_code 195 1374 = some (.iload 4, []) := kg_195_18 (i := 2) rfl
theorem kc_195_1376 : xe_code 195 1376 = some (.iconst 1, []) := kg_195_18 (i := 3) rfl
theorem kc_195_1377 : xe_code 195 1377 = some (.iadd, []) := kg_195_18 (i := 4) rfl
theorem kc_195_1378 : xe_code 195 1378 = some (.iaload, []) := kg_195_18 (i := 5) rfl
theorem kc_195_1379 : xe_code 195 1379 = some (.ifCond .eq 7, [1386]) := kg_195_18 (i := 6) rfl
theorem kc_195_1382 : xe_code 195 1382 = some (.iconst 1, []) := kg_195_18 (i := 7) rfl
theorem kc_195_1383 : xe_code 195 1383 = some (.goto 4, [1387]) := kg_195_18 (i := 8) rfl
theorem kc_195_1386 : xe_code 195 1386 = some (.iconst 0, []) := kg_195_18 (i := 9) rfl
theorem kc_195_1387 : xe_code 195 1387 = some (.aload_n 0, []) := kg_195_18 (i := 10) rfl
theorem kc_195_1388 : xe_code 195 1388 = some (.iload 4, []) := kg_195_18 (i := 11) rfl
theorem kc_195_1390 : xe_code 195 1390 = some (.iconst 2, []) := kg_195_18 (i := 12) rfl
theorem kc_195_1391 : xe_code 195 1391 = some (.iadd, []) := kg_195_18 (i := 13) rfl
theorem kc_195_1392 : xe_code 195 1392 = some (.iaload, []) := kg_195_18 (i := 14) rfl
theorem kc_195_1393 : xe_code 195 1393 = some (.aload_n 0, []) := kg_195_18 (i := 15) rfl
theorem kc_195_1394 : xe_code 195 1394 = some (.iload 4, []) := kg_195_18 (i := 16) rfl
theorem kc_195_1396 : xe_code 195 1396 = some (.iconst 3, []) := kg_195_18 (i := 17) rfl
theorem kc_195_1397 : xe_code 195 1397 = some (.iadd, []) := kg_195_18 (i := 18) rfl
theorem kc_195_1398 : xe_code 195 1398 = some (.iaload, []) := kg_195_18 (i := 19) rfl
theorem kc_195_1399 : xe_code 195 1399 = some (.ifCond .eq 7, [1406]) := kg_195_18 (i := 20) rfl
theorem kc_195_1402 : xe_code 195 1402 = some (.iconst 1, []) := kg_195_18 (i := 21) rfl
theorem kc_195_1403 : xe_code 195 1403 = some (.goto 4, [1407]) := kg_195_18 (i := 22) rfl
theorem kc_195_1406 : xe_code 195 1406 = some (.iconst 0, []) := kg_195_18 (i := 23) rfl
theorem kc_195_1407 : xe_code 195 1407 = some (.invokevirtual 154, [72, 3, 1389, 12]) := kg_195_18 (i := 24) rfl
theorem kc_195_1410 : xe_code 195 1410 = some (.pop, []) := kg_195_18 (i := 25) rfl
theorem kc_195_1411 : xe_code 195 1411 = some (.goto 90, [1501]) := kg_195_18 (i := 26) rfl
theorem kc_195_1414 : xe_code 195 1414 = some (.aload_n 1, []) := kg_195_18 (i := 27) rfl
theorem kc_195_1415 : xe_code 195 1415 = some (.aload_n 0, []) := kg_195_18 (i := 28) rfl
theorem kc_195_1416 : xe_code 195 1416 = some (.iload 4, []) := kg_195_18 (i := 29) rfl
theorem kc_195_1418 : xe_code 195 1418 = some (.iconst 1, []) := kg_195_18 (i := 30) rfl
theorem kc_195_1419 : xe_code 195 1419 = some (.iadd, []) := kg_195_18 (i := 31) rfl
theorem kc_195_1420 : xe_code 195 1420 = some (.iaload, []) := kg_195_18 (i := 32) rfl
theorem kc_195_1421 : xe_code 195 1421 = some (.aload_n 0, []) := kg_195_18 (i := 33) rfl
theorem kc_195_1422 : xe_code 195 1422 = some (.iload 4, []) := kg_195_18 (i := 34) rfl
theorem kc_195_1424 : xe_code 195 1424 = some (.iconst 2, []) := kg_195_18 (i := 35) rfl
theorem kc_195_1425 : xe_code 195 1425 = some (.iadd, []) := kg_195_18 (i := 36) rfl
theorem kc_195_1426 : xe_code 195 1426 = some (.iaload, []) := kg_195_18 (i := 37) rfl
theorem kc_195_1427 : xe_code 195 1427 = some (.invokevirtual 155, [182, 2, 821, 0]) := kg_195_18 (i := 38) rfl
theorem kc_195_1430 : xe_code 195 1430 = some (.pop, []) := kg_195_18 (i := 39) rfl
theorem kc_195_1431 : xe_code 195 1431 = some (.aload_n 2, []) := kg_195_18 (i := 40) rfl
theorem kc_195_1432 : xe_code 195 1432 = some (.aload_n 0, []) := kg_195_18 (i := 41) rfl
theorem kc_195_1433 : xe_code 195 1433 = some (.iload 4, []) := kg_195_18 (i := 42) rfl
theorem kc_195_1435 : xe_code 195 1435 = some (.iconst 1, []) := kg_195_18 (i := 43) rfl
theorem kc_195_1436 : xe_code 195 1436 = some (.iadd, []) := kg_195_18 (i := 44) rfl
theorem kc_195_1437 : xe_code 195 1437 = some (.iaload, []) := kg_195_18 (i := 45) rfl
theorem kc_195_1438 : xe_code 195 1438 = some (.aload_n 0, []) := kg_195_18 (i := 46) rfl
theorem kc_195_1439 : xe_code 195 1439 = some (.iload 4, []) := kg_195_18 (i := 47) rfl
theorem kc_195_1441 : xe_code 195 1441 = some (.iconst 2, []) := kg_195_19 (i := 0) rfl
theorem kc_195_1442 : xe_code 195 1442 = some (.iadd, []) := kg_195_19 (i := 1) rfl
theorem kc_195_1443 : xe_code 195 1443 = some (.iaload, []) := kg_195_19 (i := 2) rfl
theorem kc_195_1444 : xe_code 195 1444 = some (.invokevirtual 158, [73, 2, 1393, 12]) := kg_195_19 (i := 3) rfl
theorem kc_195_1447 : xe_code 195 1447 = some (.pop, []) := kg_195_19 (i := 4) rfl
theorem kc_195_1448 : xe_code 195 1448 = some (.goto 53, [1501]) := kg_195_19 (i := 5) rfl
theorem kc_195_1451 : xe_code 195 1451 = some (.aload_n 1, []) := kg_195_19 (i := 6) rfl
theorem kc_195_1452 : xe_code 195 1452 = some (.aload_n 0, []) := kg_195_19 (i := 7) rfl
theorem kc_195_1453 : xe_code 195 1453 = some (.iload 4, []) := kg_195_19 (i := 8) rfl
theorem kc_195_1455 : xe_code 195 1455 = some (.iconst 1, []) := kg_195_19 (i := 9) rfl
theorem kc_195_1456 : xe_code 195 1456 = some (.iadd, []) := kg_195_19 (i := 10) rfl
theorem kc_195_1457 : xe_code 195 1457 = some (.iaload, []) := kg_195_19 (i := 11) rfl
theorem kc_195_1458 : xe_code 195 1458 = some (.invokevirtual 159, [188, 1, 845, 0]) := kg_195_19 (i := 12) rfl
theorem kc_195_1461 : xe_code 195 1461 = some (.pop, []) := kg_195_19 (i := 13) rfl
theorem kc_195_1462 : xe_code 195 1462 = some (.aload_n 2, []) := kg_195_19 (i := 14) rfl
theorem kc_195_1463 : xe_code 195 1463 = some (.aload_n 0, []) := kg_195_19 (i := 15) rfl
theorem kc_195_1464 : xe_code 195 1464 = some (.iload 4, []) := kg_195_19 (i := 16) rfl
theorem kc_195_1466 : xe_code 195 1466 = some (.iconst 1, []) := kg_195_19 (i := 17) rfl
theorem kc_195_1467 : xe_code 195 1467 = some (.iadd, []) := kg_195_19 (i := 18) rfl
theorem kc_195_1468 : xe_code 195 1468 = some (.iaload, []) := kg_195_19 (i := 19) rfl
theorem kc_195_1469 : xe_code 195 1469 = some (.invokevirtual 162, [74, 1, 1397, 12]) := kg_195_19 (i := 20) rfl
theorem kc_195_1472 : xe_code 195 1472 = some (.pop, []) := kg_195_19 (i := 21) rfl
theorem kc_195_1473 : xe_code 195 1473 = some (.goto 28, [1501]) := kg_195_19 (i := 22) rfl
theorem kc_195_1476 : xe_code 195 1476 = some (.aload_n 1, []) := kg_195_19 (i := 23) rfl
theorem kc_195_1477 : xe_code 195 1477 = some (.aload_n 0, []) := kg_195_19 (i := 24) rfl
theorem kc_195_1478 : xe_code 195 1478 = some (.iload 4, []) := kg_195_19 (i := 25) rfl
theorem kc_195_1480 : xe_code 195 1480 = some (.iconst 1, []) := kg_195_19 (i := 26) rfl
theorem kc_195_1481 : xe_code 195 1481 = some (.iadd, []) := kg_195_19 (i := 27) rfl
theorem kc_195_1482 : xe_code 195 1482 = some (.iaload, []) := kg_195_19 (i := 28) rfl
theorem kc_195_1483 : xe_code 195 1483 = some (.invokevirtual 163, [190, 1, 853, 0]) := kg_195_19 (i := 29) rfl
theorem kc_195_1486 : xe_code 195 1486 = some (.pop, []) := kg_195_19 (i := 30) rfl
theorem kc_195_1487 : xe_code 195 1487 = some (.aload_n 2, []) := kg_195_19 (i := 31) rfl
theorem kc_195_1488 : xe_code 195 1488 = some (.aload_n 0, []) := kg_195_19 (i := 32) rfl
theorem kc_195_1489 : xe_code 195 1489 = some (.iload 4, []) := kg_195_19 (i := 33) rfl
theorem kc_195_1491 : xe_code 195 1491 = some (.iconst 1, []) := kg_195_19 (i := 34) rfl
theorem kc_195_1492 : xe_code 195 1492 = some (.iadd, []) := kg_195_19 (i := 35) rfl
theorem kc_195_1493 : xe_code 195 1493 = some (.iaload, []) := kg_195_19 (i := 36) rfl
theorem kc_195_1494 : xe_code 195 1494 = some (.invokevirtual 166, [75, 1, 1401, 12]) := kg_195_19 (i := 37) rfl
theorem kc_195_1497 : xe_code 195 1497 = some (.pop, []) := kg_195_19 (i := 38) rfl
theorem kc_195_1498 : xe_code 195 1498 = some (.goto 3, [1501]) := kg_195_19 (i := 39) rfl
theorem kc_195_1501 : xe_code 195 1501 = some (.iinc 4 6, []) := kg_195_19 (i := 40) rfl
theorem kc_195_1504 : xe_code 195 1504 = some (.goto (-1481), [23]) := kg_195_19 (i := 41) rfl
theorem kc_195_1507 : xe_code 195 1507 = some (.iconst 1, []) := kg_195_19 (i := 42) rfl
theorem kc_195_1508 : xe_code 195 1508 = some (.ireturn, []) := kg_195_19 (i := 43) rfl
