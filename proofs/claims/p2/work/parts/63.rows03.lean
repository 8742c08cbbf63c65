theorem kc_128_123 : xe_code 128 123 = some (.iload_n 2, []) := by decide +kernel
theorem kc_128_124 : xe_code 128 124 = some (.iload 6, []) := by decide +kernel
theorem kc_128_126 : xe_code 128 126 = some (.iastore, []) := by decide +kernel
theorem kc_128_127 : xe_code 128 127 = some (.return_, []) := by decide +kernel
theorem kc_129_0 : xe_code 129 0 = some (.aload_n 0, []) := by decide +kernel
theorem kc_129_1 : xe_code 129 1 = some (.getfield 9, [7, 0, 115]) := by decide +kernel
theorem kc_129_4 : xe_code 129 4 = some (.iconst 2, []) := by decide +kernel
theorem kc_129_5 : xe_code 129 5 = some (.iaload, []) := by decide +kernel
theorem kc_129_6 : xe_code 129 6 = some (.aload_n 0, []) := by decide +kernel
theorem kc_129_7 : xe_code 129 7 = some (.getfield 9, [7, 0, 115]) := by decide +kernel
theorem kc_129_10 : xe_code 129 10 = some (.iconst 4, []) := by decide +kernel
theorem kc_129_11 : xe_code 129 11 = some (.iaload, []) := by decide +kernel
theorem kc_129_12 : xe_code 129 12 = some (.iconst 1, []) := by decide +kernel
theorem kc_129_13 : xe_code 129 13 = some (.if_icmp .ne 12, [25]) := by decide +kernel
theorem kc_129_16 : xe_code 129 16 = some (.aload_n 0, []) := by decide +kernel
theorem kc_129_17 : xe_code 129 17 = some (.getfield 9, [7, 0, 115]) := by decide +kernel
theorem kc_129_20 : xe_code 129 20 = some (.iconst 3, []) := by decide +kernel
theorem kc_129_21 : xe_code 129 21 = some (.iaload, []) := by decide +kernel
theorem kc_129_22 : xe_code 129 22 = some (.goto 4, [26]) := by decide +kernel
theorem kc_129_25 : xe_code 129 25 = some (.iconst 0, []) := by decide +kernel
theorem kc_129_26 : xe_code 129 26 = some (.iadd, []) := by decide +kernel
theorem kc_129_27 : xe_code 129 27 = some (.ireturn, []) := by decide +kernel
theorem kc_130_0 : xe_code 130 0 = some (.bipush (-9), []) := by decide +kernel
theorem kc_130_2 : xe_code 130 2 = some (.istore 5, []) := by decide +kernel
theorem kc_130_4 : xe_code 130 4 = some (.iconst 0, []) := by decide +kernel
theorem kc_130_5 : xe_code 130 5 = some (.istore 6, []) := by decide +kernel
theorem kc_130_7 : xe_code 130 7 = some (.bipush 11, []) := by decide +kernel
theorem kc_130_9 : xe_code 130 9 = some (.istore 7, []) := by decide +kernel
theorem kc_130_11 : xe_code 130 11 = some (.iload 7, []) := by decide +kernel
theorem kc_130_13 : xe_code 130 13 = some (.ifCond .lt 44, [57]) := by decide +kernel
theorem kc_130_16 : xe_code 130 16 = some (.aload_n 0, []) := by decide +kernel
theorem kc_130_17 : xe_code 130 17 = some (.getfield 19, [4, 1, 172]) := by decide +kernel
theorem kc_130_20 : xe_code 130 20 = some (.iload 7, []) := by decide +kernel
theorem kc_130_22 : xe_code 130 22 = some (.aaload, []) := by decide +kernel
theorem kc_130_23 : xe_code 130 23 = some (.getfield 69, [11, 0, 131]) := by decide +kernel
theorem kc_130_26 : xe_code 130 26 = some (.iload_n 2, []) := by decide +kernel
theorem kc_130_27 : xe_code 130 27 = some (.if_icmp .ne 24, [51]) := by decide +kernel
theorem kc_130_30 : xe_code 130 30 = some (.iload 7, []) := by decide +kernel
theorem kc_130_32 : xe_code 130 32 = some (.istore 5, []) := by decide +kernel
theorem kc_130_34 : xe_code 130 34 = some (.iload 6, []) := by decide +kernel
theorem kc_130_36 : xe_code 130 36 = some (.aload_n 0, []) := by decide +kernel
theorem kc_130_37 : xe_code 130 37 = some (.getfield 19, [4, 1, 172]) := by decide +kernel
theorem kc_130_40 : xe_code 130 40 = some (.iload 7, []) := by decide +kernel
theorem kc_130_42 : xe_code 130 42 = some (.aaload, []) := by decide +kernel
theorem kc_130_43 : xe_code 130 43 = some (.iload 4, []) := by decide +kernel
theorem kc_130_45 : xe_code 130 45 = some (.invokevirtual 100, [109, 1, 495, 11]) := by decide +kernel
theorem kc_130_48 : xe_code 130 48 = some (.iadd, []) := by decide +kernel
theorem kc_130_49 : xe_code 130 49 = some (.istore 6, []) := by decide +kernel
theorem kc_130_51 : xe_code 130 51 = some (.iinc 7 (-1), []) := by decide +kernel
theorem kc_130_54 : xe_code 130 54 = some (.goto (-43), [11]) := by decide +kernel
theorem kc_130_57 : xe_code 130 57 = some (.iload_n 3, []) := by decide +kernel
theorem kc_130_58 : xe_code 130 58 = some (.istore 7, []) := by decide +kernel
theorem kc_130_60 : xe_code 130 60 = some (.iconst 0, []) := by decide +kernel
theorem kc_130_61 : xe_code 130 61 = some (.istore 8, []) := by decide +kernel
theorem kc_130_63 : xe_code 130 63 = some (.iload 8, []) := by decide +kernel
theorem kc_130_65 : xe_code 130 65 = some (.bipush 12, []) := by decide +kernel
theorem kc_130_67 : xe_code 130 67 = some (.if_icmp .ge 62, [129]) := by decide +kernel
theorem kc_130_70 : xe_code 130 70 = some (.iload 6, []) := by decide +kernel
theorem kc_130_72 : xe_code 130 72 = some (.ifCond .le 57, [129]) := by decide +kernel
theorem kc_130_75 : xe_code 130 75 = some (.aload_n 0, []) := by decide +kernel
theorem kc_130_76 : xe_code 130 76 = some (.getfield 19, [4, 1, 172]) := by decide +kernel
theorem kc_130_79 : xe_code 130 79 = some (.iload 8, []) := by decide +kernel
theorem kc_130_81 : xe_code 130 81 = some (.aaload, []) := by decide +kernel
theorem kc_130_82 : xe_code 130 82 = some (.getfield 69, [11, 0, 131]) := by decide +kernel
theorem kc_130_85 : xe_code 130 85 = some (.iload_n 2, []) := by decide +kernel
theorem kc_130_86 : xe_code 130 86 = some (.if_icmp .ne 37, [123]) := by decide +kernel
theorem kc_130_89 : xe_code 130 89 = some (.iload_n 3, []) := by decide +kernel
theorem kc_130_90 : xe_code 130 90 = some (.aload_n 0, []) := by decide +kernel
theorem kc_130_91 : xe_code 130 91 = some (.getfield 19, [4, 1, 172]) := by decide +kernel
theorem kc_130_94 : xe_code 130 94 = some (.iload 8, []) := by decide +kernel
theorem kc_130_96 : xe_code 130 96 = some (.aaload, []) := by decide +kernel
theorem kc_130_97 : xe_code 130 97 = some (.iload 4, []) := by decide +kernel
theorem kc_130_99 : xe_code 130 99 = some (.invokevirtual 100, [109, 1, 495, 11]) := by decide +kernel
theorem kc_130_102 : xe_code 130 102 = some (.imul, []) := by decide +kernel
theorem kc_130_103 : xe_code 130 103 = some (.iload 6, []) := by decide +kernel
theorem kc_130_105 : xe_code 130 105 = some (.idiv, []) := by decide +kernel
theorem kc_130_106 : xe_code 130 106 = some (.istore 9, []) := by decide +kernel
theorem kc_130_108 : xe_code 130 108 = some (.aload_n 1, []) := by decide +kernel
theorem kc_130_109 : xe_code 130 109 = some (.iload 8, []) := by decide +kernel
theorem kc_130_111 : xe_code 130 111 = some (.iload 9, []) := by decide +kernel
theorem kc_130_113 : xe_code 130 113 = some (.invokevirtual 161, [131, 2, 589, 9]) := by decide +kernel
theorem kc_130_116 : xe_code 130 116 = some (.iload 7, []) := by decide +kernel
theorem kc_130_118 : xe_code 130 118 = some (.iload 9, []) := by decide +kernel
theorem kc_130_120 : xe_code 130 120 = some (.isub, []) := by decide +kernel
theorem kc_130_121 : xe_code 130 121 = some (.istore 7, []) := by decide +kernel
theorem kc_130_123 : xe_code 130 123 = some (.iinc 8 1, []) := by decide +kernel
theorem kc_130_126 : xe_code 130 126 = some (.goto (-63), [63]) := by decide +kernel
theorem kc_130_129 : xe_code 130 129 = some (.iload 5, []) := by decide +kernel
theorem kc_130_131 : xe_code 130 131 = some (.bipush (-9), []) := by decide +kernel
theorem kc_130_133 : xe_code 130 133 = some (.if_icmp .eq 11, [144]) := by decide +kernel
theorem kc_130_136 : xe_code 130 136 = some (.aload_n 1, []) := by decide +kernel
theorem kc_130_137 : xe_code 130 137 = some (.iload 5, []) := by decide +kernel
theorem kc_130_139 : xe_code 130 139 = some (.iload 7, []) := by decide +kernel
theorem kc_130_141 : xe_code 130 141 = some (.invokevirtual 161, [131, 2, 589, 9]) := by decide +kernel
theorem kc_130_144 : xe_code 130 144 = some (.return_, []) := by decide +kernel
theorem kc_131_0 : xe_code 131 0 = some (.iload_n 1, []) := by decide +kernel
theorem kc_131_1 : xe_code 131 1 = some (.ifCond .lt 39, [40]) := by decide +kernel
theorem kc_131_4 : xe_code 131 4 = some (.iload_n 1, []) := by decide +kernel
theorem kc_131_5 : xe_code 131 5 = some (.aload_n 0, []) := by decide +kernel
theorem kc_131_6 : xe_code 131 6 = some (.getfield 15, [9, 1, 205]) := by decide +kernel
theorem kc_131_9 : xe_code 131 9 = some (.arraylength, []) := by decide +kernel
theorem kc_131_10 : xe_code 131 10 = some (.if_icmp .ge 30, [40]) := by decide +kernel
theorem kc_131_13 : xe_code 131 13 = some (.aload_n 0, []) := by decide +kernel
theorem kc_131_14 : xe_code 131 14 = some (.getfield 15, [9, 1, 205]) := by decide +kernel
theorem kc_131_17 : xe_code 131 17 = some (.iload_n 1, []) := by decide +kernel
theorem kc_131_18 : xe_code 131 18 = some (.iaload, []) := by decide +kernel
theorem kc_131_19 : xe_code 131 19 = some (.iload_n 2, []) := by decide +kernel
theorem kc_131_20 : xe_code 131 20 = some (.iadd, []) := by decide +kernel
theorem kc_131_21 : xe_code 131 21 = some (.istore_n 3, []) := by decide +kernel
theorem kc_131_22 : xe_code 131 22 = some (.aload_n 0, []) := by decide +kernel
theorem kc_131_23 : xe_code 131 23 = some (.getfield 15, [9, 1, 205]) := by decide +kernel
theorem kc_131_26 : xe_code 131 26 = some (.iload_n 1, []) := by decide +kernel
theorem kc_131_27 : xe_code 131 27 = some (.iload_n 3, []) := by decide +kernel
theorem kc_131_28 : xe_code 131 28 = some (.ldc 31, [99999, 572]) := by decide +kernel
theorem kc_131_30 : xe_code 131 30 = some (.if_icmp .le 8, [38]) := by decide +kernel
theorem kc_131_33 : xe_code 131 33 = some (.ldc 31, [99999, 572]) := by decide +kernel
theorem kc_131_35 : xe_code 131 35 = some (.goto 4, [39]) := by decide +kernel
theorem kc_131_38 : xe_code 131 38 = some (.iload_n 3, []) := by decide +kernel
theorem kc_131_39 : xe_code 131 39 = some (.iastore, []) := by decide +kernel
theorem kc_131_40 : xe_code 131 40 = some (.return_, []) := by decide +kernel
theorem kc_132_0 : xe_code 132 0 = some (.iconst 0, []) := by decide +kernel
theorem kc_132_1 : xe_code 132 1 = some (.istore_n 3, []) := by decide +kernel
theorem kc_132_2 : xe_code 132 2 = some (.iload_n 3, []) := by decide +kernel
theorem kc_132_3 : xe_code 132 3 = some (.aload_n 0, []) := by decide +kernel
theorem kc_132_4 : xe_code 132 4 = some (.getfield 79, [4, 5, 177]) := by decide +kernel
theorem kc_132_7 : xe_code 132 7 = some (.if_icmp .ge 62, [69]) := by decide +kernel
theorem kc_132_10 : xe_code 132 10 = some (.iload_n 3, []) := by decide +kernel
theorem kc_132_11 : xe_code 132 11 = some (.bipush 10, []) := by decide +kernel
theorem kc_132_13 : xe_code 132 13 = some (.if_icmp .ge 56, [69]) := by decide +kernel
theorem kc_132_16 : xe_code 132 16 = some (.aload_n 0, []) := by decide +kernel
theorem kc_132_17 : xe_code 132 17 = some (.getfield 25, [4, 2, 174]) := by decide +kernel
theorem kc_132_20 : xe_code 132 20 = some (.iload_n 3, []) := by decide +kernel
theorem kc_132_21 : xe_code 132 21 = some (.aaload, []) := by decide +kernel
theorem kc_132_22 : xe_code 132 22 = some (.getfield 82, [1, 0, 157]) := by decide +kernel
theorem kc_132_25 : xe_code 132 25 = some (.iconst 3, []) := by decide +kernel
theorem kc_132_26 : xe_code 132 26 = some (.if_icmp .eq 37, [63]) := by decide +kernel
theorem kc_132_29 : xe_code 132 29 = some (.aload_n 0, []) := by decide +kernel
theorem kc_132_30 : xe_code 132 30 = some (.aload_n 1, []) := by decide +kernel
theorem kc_132_31 : xe_code 132 31 = some (.iload_n 3, []) := by decide +kernel
theorem kc_132_32 : xe_code 132 32 = some (.iload_n 2, []) := by decide +kernel
theorem kc_132_33 : xe_code 132 33 = some (.invokevirtual 134, [126, 3, 564, 4]) := by decide +kernel
theorem kc_132_36 : xe_code 132 36 = some (.ifCond .eq 27, [63]) := by decide +kernel
theorem kc_132_39 : xe_code 132 39 = some (.aload_n 1, []) := by decide +kernel
theorem kc_132_40 : xe_code 132 40 = some (.aload_n 0, []) := by decide +kernel
theorem kc_132_41 : xe_code 132 41 = some (.getfield 25, [4, 2, 174]) := by decide +kernel
theorem kc_132_44 : xe_code 132 44 = some (.iload_n 3, []) := by decide +kernel
theorem kc_132_45 : xe_code 132 45 = some (.aaload, []) := by decide +kernel
theorem kc_132_46 : xe_code 132 46 = some (.getfield 85, [1, 1, 158]) := by decide +kernel
theorem kc_132_49 : xe_code 132 49 = some (.aload_n 0, []) := by decide +kernel
theorem kc_132_50 : xe_code 132 50 = some (.aload_n 0, []) := by decide +kernel
theorem kc_132_51 : xe_code 132 51 = some (.getfield 25, [4, 2, 174]) := by decide +kernel
theorem kc_132_54 : xe_code 132 54 = some (.iload_n 3, []) := by decide +kernel
theorem kc_132_55 : xe_code 132 55 = some (.aaload, []) := by decide +kernel
theorem kc_132_56 : xe_code 132 56 = some (.iload_n 2, []) := by decide +kernel
theorem kc_132_57 : xe_code 132 57 = some (.invokevirtual 164, [133, 2, 597, 4]) := by decide +kernel
theorem kc_132_60 : xe_code 132 60 = some (.invokevirtual 161, [131, 2, 589, 9]) := by decide +kernel
theorem kc_132_63 : xe_code 132 63 = some (.iinc 3 1, []) := by decide +kernel
theorem kc_132_66 : xe_code 132 66 = some (.goto (-64), [2]) := by decide +kernel
theorem kc_132_69 : xe_code 132 69 = some (.return_, []) := by decide +kernel
theorem kc_133_0 : xe_code 133 0 = some (.aload_n 1, []) := by decide +kernel
theorem kc_133_1 : xe_code 133 1 = some (.getfield 82, [1, 0, 157]) := by decide +kernel
theorem kc_133_4 : xe_code 133 4 = some (.tableswitch 96 0 2 #[28, 71, 76], [100, 32, 75, 80]) := by decide +kernel
theorem kc_133_32 : xe_code 133 32 = some (.aload_n 1, []) := by decide +kernel
theorem kc_133_33 : xe_code 133 33 = some (.getfield 85, [1, 1, 158]) := by decide +kernel
theorem kc_133_36 : xe_code 133 36 = some (.invokestatic 62, [104, 1, 492, 0]) := by decide +kernel
theorem kc_133_39 : xe_code 133 39 = some (.ifCond .eq 34, [73]) := by decide +kernel
theorem kc_133_42 : xe_code 133 42 = some (.aload_n 0, []) := by decide +kernel
theorem kc_133_43 : xe_code 133 43 = some (.getfield 19, [4, 1, 172]) := by decide +kernel
theorem kc_133_46 : xe_code 133 46 = some (.aload_n 1, []) := by decide +kernel
theorem kc_133_47 : xe_code 133 47 = some (.getfield 85, [1, 1, 158]) := by decide +kernel
theorem kc_133_50 : xe_code 133 50 = some (.aaload, []) := by decide +kernel
theorem kc_133_51 : xe_code 133 51 = some (.getfield 75, [11, 2, 136]) := by decide +kernel
theorem kc_133_54 : xe_code 133 54 = some (.ifCond .eq 19, [73]) := by decide +kernel
theorem kc_133_57 : xe_code 133 57 = some (.aload_n 1, []) := by decide +kernel
theorem kc_133_58 : xe_code 133 58 = some (.getfield 88, [1, 2, 159]) := by decide +kernel
theorem kc_133_61 : xe_code 133 61 = some (.aload_n 0, []) := by decide +kernel
theorem kc_133_62 : xe_code 133 62 = some (.getfield 38, [4, 4, 176]) := by decide +kernel
theorem kc_133_65 : xe_code 133 65 = some (.iload_n 2, []) := by decide +kernel
theorem kc_133_66 : xe_code 133 66 = some (.invokevirtual 98, [99, 1, 494, 8]) := by decide +kernel
theorem kc_133_69 : xe_code 133 69 = some (.imul, []) := by decide +kernel
theorem kc_133_70 : xe_code 133 70 = some (.goto 4, [74]) := by decide +kernel
theorem kc_133_73 : xe_code 133 73 = some (.iconst 0, []) := by decide +kernel
theorem kc_133_74 : xe_code 133 74 = some (.ireturn, []) := by decide +kernel
theorem kc_133_75 : xe_code 133 75 = some (.aload_n 1, []) := by decide +kernel
theorem kc_133_76 : xe_code 133 76 = some (.getfield 88, [1, 2, 159]) := by decide +kernel
theorem kc_133_79 : xe_code 133 79 = some (.ireturn, []) := by decide +kernel
theorem kc_133_80 : xe_code 133 80 = some (.iload_n 2, []) := by decide +kernel
theorem kc_133_81 : xe_code 133 81 = some (.bipush 24, []) := by decide +kernel
theorem kc_133_83 : xe_code 133 83 = some (.invokestatic 145, [3, 2, 577, 0]) := by decide +kernel
theorem kc_133_86 : xe_code 133 86 = some (.bipush 6, []) := by decide +kernel
theorem kc_133_88 : xe_code 133 88 = some (.if_icmp .ge 10, [98]) := by decide +kernel
theorem kc_133_91 : xe_code 133 91 = some (.aload_n 1, []) := by decide +kernel
theorem kc_133_92 : xe_code 133 92 = some (.getfield 88, [1, 2, 159]) := by decide +kernel
theorem kc_133_95 : xe_code 133 95 = some (.goto 4, [99]) := by decide +kernel
theorem kc_133_98 : xe_code 133 98 = some (.iconst 0, []) := by decide +kernel
theorem kc_133_99 : xe_code 133 99 = some (.ireturn, []) := by decide +kernel
theorem kc_133_100 : xe_code 133 100 = some (.iconst 0, []) := by decide +kernel
theorem kc_133_101 : xe_code 133 101 = some (.ireturn, []) := by decide +kernel
theorem kc_134_0 : xe_code 134 0 = some (.iconst 0, []) := by decide +kernel
theorem kc_134_1 : xe_code 134 1 = some (.istore_n 2, []) := by decide +kernel
theorem kc_134_2 : xe_code 134 2 = some (.iload_n 2, []) := by decide +kernel
theorem kc_134_3 : xe_code 134 3 = some (.bipush 12, []) := by decide +kernel
theorem kc_134_5 : xe_code 134 5 = some (.if_icmp .ge 40, [45]) := by decide +kernel
theorem kc_134_8 : xe_code 134 8 = some (.aload_n 1, []) := by decide +kernel
theorem kc_134_9 : xe_code 134 9 = some (.getfield 125, [9, 1, 208]) := by decide +kernel
theorem kc_134_12 : xe_code 134 12 = some (.iload_n 2, []) := by decide +kernel
theorem kc_134_13 : xe_code 134 13 = some (.iaload, []) := by decide +kernel
theorem kc_134_14 : xe_code 134 14 = some (.istore_n 3, []) := by decide +kernel
theorem kc_134_15 : xe_code 134 15 = some (.iload_n 3, []) := by decide +kernel
theorem kc_134_16 : xe_code 134 16 = some (.ifCond .le 23, [39]) := by decide +kernel
theorem kc_134_19 : xe_code 134 19 = some (.aload_n 1, []) := by decide +kernel
theorem kc_134_20 : xe_code 134 20 = some (.getfield 125, [9, 1, 208]) := by decide +kernel
theorem kc_134_23 : xe_code 134 23 = some (.iload_n 2, []) := by decide +kernel
theorem kc_134_24 : xe_code 134 24 = some (.iload_n 3, []) := by decide +kernel
theorem kc_134_25 : xe_code 134 25 = some (.iload_n 3, []) := by decide +kernel
theorem kc_134_26 : xe_code 134 26 = some (.aload_n 0, []) := by decide +kernel
theorem kc_134_27 : xe_code 134 27 = some (.getfield 41, [4, 6, 179]) := by decide +kernel
theorem kc_134_30 : xe_code 134 30 = some (.imul, []) := by decide +kernel
theorem kc_134_31 : xe_code 134 31 = some (.bipush 99, []) := by decide +kernel
theorem kc_134_33 : xe_code 134 33 = some (.iadd, []) := by decide +kernel
theorem kc_134_34 : xe_code 134 34 = some (.bipush 100, []) := by decide +kernel
theorem kc_134_36 : xe_code 134 36 = some (.idiv, []) := by decide +kernel
theorem kc_134_37 : xe_code 134 37 = some (.isub, []) := by decide +kernel
theorem kc_134_38 : xe_code 134 38 = some (.iastore, []) := by decide +kernel
theorem kc_134_39 : xe_code 134 39 = some (.iinc 2 1, []) := by decide +kernel
theorem kc_134_42 : xe_code 134 42 = some (.goto (-40), [2]) := by decide +kernel
theorem kc_134_45 : xe_code 134 45 = some (.return_, []) := by decide +kernel
theorem kc_135_0 : xe_code 135 0 = some (.iload_n 2, []) := by decide +kernel
theorem kc_135_1 : xe_code 135 1 = some (.ifCond .lt 10, [11]) := by decide +kernel
theorem kc_135_4 : xe_code 135 4 = some (.iload_n 2, []) := by decide +kernel
theorem kc_135_5 : xe_code 135 5 = some (.sipush 600, []) := by decide +kernel
theorem kc_135_8 : xe_code 135 8 = some (.if_icmp .lt 4, [12]) := by decide +kernel
theorem kc_135_11 : xe_code 135 11 = some (.return_, []) := by decide +kernel
theorem kc_135_12 : xe_code 135 12 = some (.iconst 0, []) := by decide +kernel
theorem kc_135_13 : xe_code 135 13 = some (.istore_n 3, []) := by decide +kernel
theorem kc_135_14 : xe_code 135 14 = some (.iload_n 3, []) := by decide +kernel
theorem kc_135_15 : xe_code 135 15 = some (.bipush 12, []) := by decide +kernel
theorem kc_135_17 : xe_code 135 17 = some (.if_icmp .ge 52, [69]) := by decide +kernel
theorem kc_135_20 : xe_code 135 20 = some (.aload_n 0, []) := by decide +kernel
theorem kc_135_21 : xe_code 135 21 = some (.getfield 19, [4, 1, 172]) := by decide +kernel
theorem kc_135_24 : xe_code 135 24 = some (.iload_n 3, []) := by decide +kernel
theorem kc_135_25 : xe_code 135 25 = some (.aaload, []) := by decide +kernel
theorem kc_135_26 : xe_code 135 26 = some (.getfield 122, [11, 4, 140]) := by decide +kernel
theorem kc_135_29 : xe_code 135 29 = some (.iload_n 2, []) := by decide +kernel
theorem kc_135_30 : xe_code 135 30 = some (.aload_n 1, []) := by decide +kernel
theorem kc_135_31 : xe_code 135 31 = some (.getfield 125, [9, 1, 208]) := by decide +kernel
theorem kc_135_34 : xe_code 135 34 = some (.iload_n 3, []) := by decide +kernel
theorem kc_135_35 : xe_code 135 35 = some (.iaload, []) := by decide +kernel
theorem kc_135_36 : xe_code 135 36 = some (.iastore, []) := by decide +kernel
theorem kc_135_37 : xe_code 135 37 = some (.aload_n 1, []) := by decide +kernel
theorem kc_135_38 : xe_code 135 38 = some (.getfield 125, [9, 1, 208]) := by decide +kernel
theorem kc_135_41 : xe_code 135 41 = some (.iload_n 3, []) := by decide +kernel
theorem kc_135_42 : xe_code 135 42 = some (.iaload, []) := by decide +kernel
theorem kc_135_43 : xe_code 135 43 = some (.bipush 50, []) := by decide +kernel
theorem kc_135_45 : xe_code 135 45 = some (.if_icmp .lt 18, [63]) := by decide +kernel
theorem kc_135_48 : xe_code 135 48 = some (.aload_n 0, []) := by decide +kernel
theorem kc_135_49 : xe_code 135 49 = some (.getfield 19, [4, 1, 172]) := by decide +kernel
theorem kc_135_52 : xe_code 135 52 = some (.iload_n 3, []) := by decide +kernel
theorem kc_135_53 : xe_code 135 53 = some (.aaload, []) := by decide +kernel
theorem kc_135_54 : xe_code 135 54 = some (.dup, []) := by decide +kernel
theorem kc_135_55 : xe_code 135 55 = some (.getfield 128, [11, 3, 138]) := by decide +kernel
theorem kc_135_58 : xe_code 135 58 = some (.iconst 1, []) := by decide +kernel
theorem kc_135_59 : xe_code 135 59 = some (.iadd, []) := by decide +kernel
theorem kc_135_60 : xe_code 135 60 = some (.putfield 128, [11, 3, 138]) := by decide +kernel
theorem kc_135_63 : xe_code 135 63 = some (.iinc 3 1, []) := by decide +kernel
theorem kc_135_66 : xe_code 135 66 = some (.goto (-52), [14]) := by decide +kernel
theorem kc_135_69 : xe_code 135 69 = some (.return_, []) := by decide +kernel
theorem kc_136_0 : xe_code 136 0 = some (.iconst 0, []) := by decide +kernel
theorem kc_136_1 : xe_code 136 1 = some (.istore_n 1, []) := by decide +kernel
theorem kc_136_2 : xe_code 136 2 = some (.iload_n 1, []) := by decide +kernel
theorem kc_136_3 : xe_code 136 3 = some (.aload_n 0, []) := by decide +kernel
theorem kc_136_4 : xe_code 136 4 = some (.getfield 243, [0, 8, 377]) := by decide +kernel
theorem kc_136_7 : xe_code 136 7 = some (.if_icmp .ge 53, [60]) := by decide +kernel
theorem kc_136_10 : xe_code 136 10 = some (.iload_n 1, []) := by decide +kernel
theorem kc_136_11 : xe_code 136 11 = some (.bipush 20, []) := by decide +kernel
theorem kc_136_13 : xe_code 136 13 = some (.if_icmp .ge 47, [60]) := by decide +kernel
theorem kc_136_16 : xe_code 136 16 = some (.aload_n 0, []) := by decide +kernel
theorem kc_136_17 : xe_code 136 17 = some (.getfield 55, [0, 6, 375]) := by decide +kernel
theorem kc_136_20 : xe_code 136 20 = some (.iload_n 1, []) := by decide +kernel
theorem kc_136_21 : xe_code 136 21 = some (.aaload, []) := by decide +kernel
theorem kc_136_22 : xe_code 136 22 = some (.astore_n 2, []) := by decide +kernel
theorem kc_136_23 : xe_code 136 23 = some (.aload_n 2, []) := by decide +kernel
theorem kc_136_24 : xe_code 136 24 = some (.getfield 256, [10, 4, 354]) := by decide +kernel
theorem kc_136_27 : xe_code 136 27 = some (.aload_n 0, []) := by decide +kernel
theorem kc_136_28 : xe_code 136 28 = some (.getfield 148, [0, 9, 378]) := by decide +kernel
theorem kc_136_31 : xe_code 136 31 = some (.if_icmp .ne 23, [54]) := by decide +kernel
theorem kc_136_34 : xe_code 136 34 = some (.aload_n 0, []) := by decide +kernel
theorem kc_136_35 : xe_code 136 35 = some (.getfield 10, [0, 0, 369]) := by decide +kernel
theorem kc_136_38 : xe_code 136 38 = some (.aload_n 2, []) := by decide +kernel
theorem kc_136_39 : xe_code 136 39 = some (.getfield 246, [10, 0, 350]) := by decide +kernel
theorem kc_136_42 : xe_code 136 42 = some (.aload_n 2, []) := by decide +kernel
theorem kc_136_43 : xe_code 136 43 = some (.getfield 247, [10, 1, 351]) := by decide +kernel
theorem kc_136_46 : xe_code 136 46 = some (.aload_n 2, []) := by decide +kernel
theorem kc_136_47 : xe_code 136 47 = some (.getfield 331, [10, 5, 355]) := by decide +kernel
theorem kc_136_50 : xe_code 136 50 = some (.invokevirtual 88, [92, 3, 419, 4]) := by decide +kernel
theorem kc_136_53 : xe_code 136 53 = some (.pop, []) := by decide +kernel
theorem kc_136_54 : xe_code 136 54 = some (.iinc 1 1, []) := by decide +kernel
theorem kc_136_57 : xe_code 136 57 = some (.goto (-55), [2]) := by decide +kernel
theorem kc_136_60 : xe_code 136 60 = some (.return_, []) := by decide +kernel
theorem kc_137_0 : xe_code 137 0 = some (.aload_n 0, []) := by decide +kernel
theorem kc_137_1 : xe_code 137 1 = some (.getfield 10, [0, 0, 369]) := by decide +kernel
theorem kc_137_4 : xe_code 137 4 = some (.iload_n 2, []) := by decide +kernel
theorem kc_137_5 : xe_code 137 5 = some (.invokevirtual 157, [108, 1, 515, 4]) := by decide +kernel
theorem kc_137_8 : xe_code 137 8 = some (.ifCond .ne 9, [17]) := by decide +kernel
theorem kc_137_11 : xe_code 137 11 = some (.aload_n 0, []) := by decide +kernel
theorem kc_137_12 : xe_code 137 12 = some (.iconst (-1), []) := by decide +kernel
theorem kc_137_13 : xe_code 137 13 = some (.invokevirtual 72, [90, 1, 407, 0]) := by decide +kernel
theorem kc_137_16 : xe_code 137 16 = some (.ireturn, []) := by decide +kernel
theorem kc_137_17 : xe_code 137 17 = some (.aload_n 0, []) := by decide +kernel
theorem kc_137_18 : xe_code 137 18 = some (.getfield 28, [0, 2, 371]) := by decide +kernel
theorem kc_137_21 : xe_code 137 21 = some (.iload_n 1, []) := by decide +kernel
theorem kc_137_22 : xe_code 137 22 = some (.invokevirtual 190, [138, 1, 617, 3]) := by decide +kernel
theorem kc_137_25 : xe_code 137 25 = some (.ifCond .ne 10, [35]) := by decide +kernel
theorem kc_137_28 : xe_code 137 28 = some (.aload_n 0, []) := by decide +kernel
theorem kc_137_29 : xe_code 137 29 = some (.bipush (-2), []) := by decide +kernel
theorem kc_137_31 : xe_code 137 31 = some (.invokevirtual 72, [90, 1, 407, 0]) := by decide +kernel
theorem kc_137_34 : xe_code 137 34 = some (.ireturn, []) := by decide +kernel
theorem kc_137_35 : xe_code 137 35 = some (.aload_n 0, []) := by decide +kernel
theorem kc_137_36 : xe_code 137 36 = some (.getfield 28, [0, 2, 371]) := by decide +kernel
theorem kc_137_39 : xe_code 137 39 = some (.iload_n 1, []) := by decide +kernel
theorem kc_137_40 : xe_code 137 40 = some (.iload_n 2, []) := by decide +kernel
theorem kc_137_41 : xe_code 137 41 = some (.aload_n 0, []) := by decide +kernel
theorem kc_137_42 : xe_code 137 42 = some (.getfield 148, [0, 9, 378]) := by decide +kernel
theorem kc_137_45 : xe_code 137 45 = some (.invokevirtual 204, [141, 3, 629, 3]) := by decide +kernel
theorem kc_137_48 : xe_code 137 48 = some (.ireturn, []) := by decide +kernel
theorem kc_138_0 : xe_code 138 0 = some (.iload_n 1, []) := by decide +kernel
theorem kc_138_1 : xe_code 138 1 = some (.ifCond .lt 15, [16]) := by decide +kernel
theorem kc_138_4 : xe_code 138 4 = some (.iload_n 1, []) := by decide +kernel
theorem kc_138_5 : xe_code 138 5 = some (.aload_n 0, []) := by decide +kernel
theorem kc_138_6 : xe_code 138 6 = some (.invokevirtual 47, [139, 0, 621, 3]) := by decide +kernel
theorem kc_138_9 : xe_code 138 9 = some (.if_icmp .ge 7, [16]) := by decide +kernel
theorem kc_138_12 : xe_code 138 12 = some (.iconst 1, []) := by decide +kernel
theorem kc_138_13 : xe_code 138 13 = some (.goto 4, [17]) := by decide +kernel
theorem kc_138_16 : xe_code 138 16 = some (.iconst 0, []) := by decide +kernel
theorem kc_138_17 : xe_code 138 17 = some (.ireturn, []) := by decide +kernel
theorem kc_139_0 : xe_code 139 0 = some (.iconst 1, []) := by decide +kernel
theorem kc_139_1 : xe_code 139 1 = some (.aload_n 0, []) := by decide +kernel
theorem kc_139_2 : xe_code 139 2 = some (.getfield 35, [3, 0, 232]) := by decide +kernel
theorem kc_139_5 : xe_code 139 5 = some (.invokevirtual 87, [140, 0, 625, 4]) := by decide +kernel
theorem kc_139_8 : xe_code 139 8 = some (.ishl, []) := by decide +kernel
theorem kc_139_9 : xe_code 139 9 = some (.ireturn, []) := by decide +kernel
theorem kc_140_0 : xe_code 140 0 = some (.aload_n 0, []) := by decide +kernel
theorem kc_140_1 : xe_code 140 1 = some (.getfield 79, [4, 5, 177]) := by decide +kernel
theorem kc_140_4 : xe_code 140 4 = some (.bipush 6, []) := by decide +kernel
theorem kc_140_6 : xe_code 140 6 = some (.if_icmp .ge 10, [16]) := by decide +kernel
theorem kc_140_9 : xe_code 140 9 = some (.aload_n 0, []) := by decide +kernel
theorem kc_140_10 : xe_code 140 10 = some (.getfield 79, [4, 5, 177]) := by decide +kernel
theorem kc_140_13 : xe_code 140 13 = some (.goto 5, [18]) := by decide +kernel
theorem kc_140_16 : xe_code 140 16 = some (.bipush 6, []) := by decide +kernel
theorem kc_140_18 : xe_code 140 18 = some (.ireturn, []) := by decide +kernel
theorem kc_141_0 : xe_code 141 0 = some (.aload_n 0, []) := by decide +kernel
theorem kc_141_1 : xe_code 141 1 = some (.getfield 12, [3, 1, 233]) := by decide +kernel
theorem kc_141_4 : xe_code 141 4 = some (.iload_n 1, []) := by decide +kernel
theorem kc_141_5 : xe_code 141 5 = some (.aload_n 0, []) := by decide +kernel
theorem kc_141_6 : xe_code 141 6 = some (.getfield 35, [3, 0, 232]) := by decide +kernel
theorem kc_141_9 : xe_code 141 9 = some (.invokevirtual 55, [142, 0, 633, 4]) := by decide +kernel
theorem kc_141_12 : xe_code 141 12 = some (.invokevirtual 60, [143, 2, 637, 9]) := by decide +kernel
theorem kc_141_15 : xe_code 141 15 = some (.iconst 0, []) := by decide +kernel
theorem kc_141_16 : xe_code 141 16 = some (.istore 4, []) := by decide +kernel
theorem kc_141_18 : xe_code 141 18 = some (.iload 4, []) := by decide +kernel
theorem kc_141_20 : xe_code 141 20 = some (.iload_n 3, []) := by decide +kernel
theorem kc_141_21 : xe_code 141 21 = some (.if_icmp .ge 30, [51]) := by decide +kernel
theorem kc_141_24 : xe_code 141 24 = some (.iload 4, []) := by decide +kernel
theorem kc_141_26 : xe_code 141 26 = some (.sipush 600, []) := by decide +kernel
theorem kc_141_29 : xe_code 141 29 = some (.if_icmp .ge 22, [51]) := by decide +kernel
theorem kc_141_32 : xe_code 141 32 = some (.aload_n 0, []) := by decide +kernel
theorem kc_141_33 : xe_code 141 33 = some (.getfield 35, [3, 0, 232]) := by decide +kernel
theorem kc_141_36 : xe_code 141 36 = some (.aload_n 0, []) := by decide +kernel
theorem kc_141_37 : xe_code 141 37 = some (.getfield 12, [3, 1, 233]) := by decide +kernel
theorem kc_141_40 : xe_code 141 40 = some (.iload 4, []) := by decide +kernel
theorem kc_141_42 : xe_code 141 42 = some (.invokevirtual 64, [124, 2, 642, 4]) := by decide +kernel
theorem kc_141_45 : xe_code 141 45 = some (.iinc 4 1, []) := by decide +kernel
theorem kc_141_48 : xe_code 141 48 = some (.goto (-30), [18]) := by decide +kernel
theorem kc_141_51 : xe_code 141 51 = some (.iload_n 2, []) := by decide +kernel
theorem kc_141_52 : xe_code 141 52 = some (.invokestatic 72, [104, 1, 643, 0]) := by decide +kernel
theorem kc_141_55 : xe_code 141 55 = some (.ifCond .eq 15, [70]) := by decide +kernel
theorem kc_141_58 : xe_code 141 58 = some (.aload_n 0, []) := by decide +kernel
theorem kc_141_59 : xe_code 141 59 = some (.getfield 12, [3, 1, 233]) := by decide +kernel
theorem kc_141_62 : xe_code 141 62 = some (.getfield 75, [9, 1, 206]) := by decide +kernel
theorem kc_141_65 : xe_code 141 65 = some (.iload_n 2, []) := by decide +kernel
theorem kc_141_66 : xe_code 141 66 = some (.iaload, []) := by decide +kernel
theorem kc_141_67 : xe_code 141 67 = some (.goto 4, [71]) := by decide +kernel
theorem kc_141_70 : xe_code 141 70 = some (.iconst 0, []) := by decide +kernel
theorem kc_141_71 : xe_code 141 71 = some (.ireturn, []) := by decide +kernel
theorem kc_142_0 : xe_code 142 0 = some (.iconst 0, []) := by decide +kernel
theorem kc_142_1 : xe_code 142 1 = some (.istore_n 1, []) := by decide +kernel
theorem kc_142_2 : xe_code 142 2 = some (.iconst 0, []) := by decide +kernel
theorem kc_142_3 : xe_code 142 3 = some (.istore_n 2, []) := by decide +kernel
theorem kc_142_4 : xe_code 142 4 = some (.iload_n 2, []) := by decide +kernel
theorem kc_142_5 : xe_code 142 5 = some (.bipush 12, []) := by decide +kernel
theorem kc_142_7 : xe_code 142 7 = some (.if_icmp .ge 35, [42]) := by decide +kernel
theorem kc_142_10 : xe_code 142 10 = some (.aload_n 0, []) := by decide +kernel
theorem kc_142_11 : xe_code 142 11 = some (.getfield 19, [4, 1, 172]) := by decide +kernel
theorem kc_142_14 : xe_code 142 14 = some (.iload_n 2, []) := by decide +kernel
theorem kc_142_15 : xe_code 142 15 = some (.aaload, []) := by decide +kernel
theorem kc_142_16 : xe_code 142 16 = some (.invokevirtual 65, [105, 0, 493, 11]) := by decide +kernel
theorem kc_142_19 : xe_code 142 19 = some (.ifCond .eq 17, [36]) := by decide +kernel
theorem kc_142_22 : xe_code 142 22 = some (.iload_n 1, []) := by decide +kernel
theorem kc_142_23 : xe_code 142 23 = some (.iconst 1, []) := by decide +kernel
theorem kc_142_24 : xe_code 142 24 = some (.aload_n 0, []) := by decide +kernel
theorem kc_142_25 : xe_code 142 25 = some (.getfield 19, [4, 1, 172]) := by decide +kernel
theorem kc_142_28 : xe_code 142 28 = some (.iload_n 2, []) := by decide +kernel
theorem kc_142_29 : xe_code 142 29 = some (.aaload, []) := by decide +kernel
theorem kc_142_30 : xe_code 142 30 = some (.getfield 69, [11, 0, 131]) := by decide +kernel
theorem kc_142_33 : xe_code 142 33 = some (.ishl, []) := by decide +kernel
theorem kc_142_34 : xe_code 142 34 = some (.ior, []) := by decide +kernel
theorem kc_142_35 : xe_code 142 35 = some (.istore_n 1, []) := by decide +kernel
theorem kc_142_36 : xe_code 142 36 = some (.iinc 2 1, []) := by decide +kernel
theorem kc_142_39 : xe_code 142 39 = some (.goto (-35), [4]) := by decide +kernel
theorem kc_142_42 : xe_code 142 42 = some (.iload_n 1, []) := by decide +kernel
theorem kc_142_43 : xe_code 142 43 = some (.ireturn, []) := by decide +kernel
theorem kc_143_0 : xe_code 143 0 = some (.aload_n 0, []) := by decide +kernel
theorem kc_143_1 : xe_code 143 1 = some (.getfield 9, [9, 0, 202]) := by decide +kernel
theorem kc_143_4 : xe_code 143 4 = some (.iconst 0, []) := by decide +kernel
theorem kc_143_5 : xe_code 143 5 = some (.invokestatic 18, [1, 2, 641, 0]) := by decide +kernel
theorem kc_143_8 : xe_code 143 8 = some (.aload_n 0, []) := by decide +kernel
theorem kc_143_9 : xe_code 143 9 = some (.getfield 15, [9, 1, 205]) := by decide +kernel
theorem kc_143_12 : xe_code 143 12 = some (.iconst 0, []) := by decide +kernel
theorem kc_143_13 : xe_code 143 13 = some (.invokestatic 18, [1, 2, 641, 0]) := by decide +kernel
theorem kc_143_16 : xe_code 143 16 = some (.aload_n 0, []) := by decide +kernel
theorem kc_143_17 : xe_code 143 17 = some (.iload_n 1, []) := by decide +kernel
theorem kc_143_18 : xe_code 143 18 = some (.putfield 24, [9, 2, 209]) := by decide +kernel
theorem kc_143_21 : xe_code 143 21 = some (.aload_n 0, []) := by decide +kernel
theorem kc_143_22 : xe_code 143 22 = some (.iload_n 2, []) := by decide +kernel
theorem kc_143_23 : xe_code 143 23 = some (.putfield 28, [9, 3, 213]) := by decide +kernel
theorem kc_143_26 : xe_code 143 26 = some (.return_, []) := by decide +kernel
theorem kc_144_0 : xe_code 144 0 = some (.aload_n 0, []) := by decide +kernel
theorem kc_144_1 : xe_code 144 1 = some (.getfield 28, [0, 2, 371]) := by decide +kernel
theorem kc_144_4 : xe_code 144 4 = some (.invokevirtual 207, [145, 0, 648, 3]) := by decide +kernel
theorem kc_144_7 : xe_code 144 7 = some (.ireturn, []) := by decide +kernel
theorem kc_145_0 : xe_code 145 0 = some (.iconst 0, []) := by decide +kernel
theorem kc_145_1 : xe_code 145 1 = some (.istore_n 1, []) := by decide +kernel
theorem kc_145_2 : xe_code 145 2 = some (.iconst 1, []) := by decide +kernel
theorem kc_145_3 : xe_code 145 3 = some (.istore_n 2, []) := by decide +kernel
theorem kc_145_4 : xe_code 145 4 = some (.iload_n 2, []) := by decide +kernel
theorem kc_145_5 : xe_code 145 5 = some (.aload_n 0, []) := by decide +kernel
theorem kc_145_6 : xe_code 145 6 = some (.invokevirtual 47, [139, 0, 621, 3]) := by decide +kernel
theorem kc_145_9 : xe_code 145 9 = some (.if_icmp .ge 46, [55]) := by decide +kernel
theorem kc_145_12 : xe_code 145 12 = some (.aload_n 0, []) := by decide +kernel
theorem kc_145_13 : xe_code 145 13 = some (.iload_n 1, []) := by decide +kernel
theorem kc_145_14 : xe_code 145 14 = some (.invokevirtual 78, [146, 1, 652, 3]) := by decide +kernel
theorem kc_145_17 : xe_code 145 17 = some (.aload_n 0, []) := by decide +kernel
theorem kc_145_18 : xe_code 145 18 = some (.iload_n 2, []) := by decide +kernel
theorem kc_145_19 : xe_code 145 19 = some (.invokevirtual 78, [146, 1, 652, 3]) := by decide +kernel
theorem kc_145_22 : xe_code 145 22 = some (.lsub, []) := by decide +kernel
theorem kc_145_23 : xe_code 145 23 = some (.lstore_n 3, []) := by decide +kernel
theorem kc_145_24 : xe_code 145 24 = some (.lload_n 3, []) := by decide +kernel
theorem kc_145_25 : xe_code 145 25 = some (.lconst 0, []) := by decide +kernel
theorem kc_145_26 : xe_code 145 26 = some (.lcmp, []) := by decide +kernel
theorem kc_145_27 : xe_code 145 27 = some (.ifCond .gt 20, [47]) := by decide +kernel
theorem kc_145_30 : xe_code 145 30 = some (.lload_n 3, []) := by decide +kernel
theorem kc_145_31 : xe_code 145 31 = some (.lconst 0, []) := by decide +kernel
theorem kc_145_32 : xe_code 145 32 = some (.lcmp, []) := by decide +kernel
theorem kc_145_33 : xe_code 145 33 = some (.ifCond .ne 16, [49]) := by decide +kernel
theorem kc_145_36 : xe_code 145 36 = some (.iload_n 2, []) := by decide +kernel
theorem kc_145_37 : xe_code 145 37 = some (.invokestatic 82, [4, 1, 661, 0]) := by decide +kernel
theorem kc_145_40 : xe_code 145 40 = some (.iload_n 1, []) := by decide +kernel
theorem kc_145_41 : xe_code 145 41 = some (.invokestatic 82, [4, 1, 661, 0]) := by decide +kernel
theorem kc_145_44 : xe_code 145 44 = some (.if_icmp .ge 5, [49]) := by decide +kernel
theorem kc_145_47 : xe_code 145 47 = some (.iload_n 2, []) := by decide +kernel
theorem kc_145_48 : xe_code 145 48 = some (.istore_n 1, []) := by decide +kernel
theorem kc_145_49 : xe_code 145 49 = some (.iinc 2 1, []) := by decide +kernel
theorem kc_145_52 : xe_code 145 52 = some (.goto (-48), [4]) := by decide +kernel
theorem kc_145_55 : xe_code 145 55 = some (.iload_n 1, []) := by decide +kernel
theorem kc_145_56 : xe_code 145 56 = some (.ireturn, []) := by decide +kernel
theorem kc_146_0 : xe_code 146 0 = some (.aload_n 0, []) := by decide +kernel
theorem kc_146_1 : xe_code 146 1 = some (.iload_n 1, []) := by decide +kernel
theorem kc_146_2 : xe_code 146 2 = some (.invokevirtual 51, [138, 1, 656, 3]) := by decide +kernel
theorem kc_146_5 : xe_code 146 5 = some (.ifCond .ne 5, [10]) := by decide +kernel
theorem kc_146_8 : xe_code 146 8 = some (.lconst 0, []) := by decide +kernel
theorem kc_146_9 : xe_code 146 9 = some (.lreturn, []) := by decide +kernel
theorem kc_146_10 : xe_code 146 10 = some (.aload_n 0, []) := by decide +kernel
theorem kc_146_11 : xe_code 146 11 = some (.getfield 39, [3, 7, 239]) := by decide +kernel
theorem kc_146_14 : xe_code 146 14 = some (.iload_n 1, []) := by decide +kernel
theorem kc_146_15 : xe_code 146 15 = some (.lshr, []) := by decide +kernel
theorem kc_146_16 : xe_code 146 16 = some (.lconst 1, []) := by decide +kernel
theorem kc_146_17 : xe_code 146 17 = some (.land, []) := by decide +kernel
theorem kc_146_18 : xe_code 146 18 = some (.lconst 0, []) := by decide +kernel
theorem kc_146_19 : xe_code 146 19 = some (.lcmp, []) := by decide +kernel
theorem kc_146_20 : xe_code 146 20 = some (.ifCond .eq 10, [30]) := by decide +kernel
theorem kc_146_23 : xe_code 146 23 = some (.aload_n 0, []) := by decide +kernel
theorem kc_146_24 : xe_code 146 24 = some (.getfield 31, [3, 6, 238]) := by decide +kernel
theorem kc_146_27 : xe_code 146 27 = some (.iload_n 1, []) := by decide +kernel
theorem kc_146_28 : xe_code 146 28 = some (.laload, []) := by decide +kernel
theorem kc_146_29 : xe_code 146 29 = some (.lreturn, []) := by decide +kernel
theorem kc_146_30 : xe_code 146 30 = some (.aload_n 0, []) := by decide +kernel
theorem kc_146_31 : xe_code 146 31 = some (.getfield 12, [3, 1, 233]) := by decide +kernel
theorem kc_146_34 : xe_code 146 34 = some (.iload_n 1, []) := by decide +kernel
theorem kc_146_35 : xe_code 146 35 = some (.aload_n 0, []) := by decide +kernel
theorem kc_146_36 : xe_code 146 36 = some (.getfield 35, [3, 0, 232]) := by decide +kernel
theorem kc_146_39 : xe_code 146 39 = some (.invokevirtual 55, [142, 0, 633, 4]) := by decide +kernel
theorem kc_146_42 : xe_code 146 42 = some (.invokevirtual 60, [143, 2, 637, 9]) := by decide +kernel
theorem kc_146_45 : xe_code 146 45 = some (.lconst 0, []) := by decide +kernel
theorem kc_146_46 : xe_code 146 46 = some (.lstore_n 2, []) := by decide +kernel
theorem kc_146_47 : xe_code 146 47 = some (.iconst 0, []) := by decide +kernel
theorem kc_146_48 : xe_code 146 48 = some (.istore 4, []) := by decide +kernel
theorem kc_146_50 : xe_code 146 50 = some (.iconst 0, []) := by decide +kernel
theorem kc_146_51 : xe_code 146 51 = some (.istore 5, []) := by decide +kernel
theorem kc_146_53 : xe_code 146 53 = some (.iload 5, []) := by decide +kernel
theorem kc_146_55 : xe_code 146 55 = some (.aload_n 0, []) := by decide +kernel
theorem kc_146_56 : xe_code 146 56 = some (.getfield 43, [3, 8, 240]) := by decide +kernel
theorem kc_146_59 : xe_code 146 59 = some (.if_icmp .ge 70, [129]) := by decide +kernel
theorem kc_146_62 : xe_code 146 62 = some (.iload 5, []) := by decide +kernel
theorem kc_146_64 : xe_code 146 64 = some (.bipush 60, []) := by decide +kernel
theorem kc_146_66 : xe_code 146 66 = some (.if_icmp .ge 63, [129]) := by decide +kernel
theorem kc_146_69 : xe_code 146 69 = some (.iload 4, []) := by decide +kernel
theorem kc_146_71 : xe_code 146 71 = some (.istore 6, []) := by decide +kernel
theorem kc_146_73 : xe_code 146 73 = some (.iload 6, []) := by decide +kernel
theorem kc_146_75 : xe_code 146 75 = some (.aload_n 0, []) := by decide +kernel
theorem kc_146_76 : xe_code 146 76 = some (.getfield 22, [3, 3, 235]) := by decide +kernel
theorem kc_146_79 : xe_code 146 79 = some (.iload 5, []) := by decide +kernel
theorem kc_146_81 : xe_code 146 81 = some (.iaload, []) := by decide +kernel
theorem kc_146_82 : xe_code 146 82 = some (.if_icmp .ge 22, [104]) := by decide +kernel
theorem kc_146_85 : xe_code 146 85 = some (.aload_n 0, []) := by decide +kernel
theorem kc_146_86 : xe_code 146 86 = some (.getfield 35, [3, 0, 232]) := by decide +kernel
theorem kc_146_89 : xe_code 146 89 = some (.aload_n 0, []) := by decide +kernel
theorem kc_146_90 : xe_code 146 90 = some (.getfield 12, [3, 1, 233]) := by decide +kernel
theorem kc_146_93 : xe_code 146 93 = some (.iload 6, []) := by decide +kernel
theorem kc_146_95 : xe_code 146 95 = some (.invokevirtual 64, [124, 2, 642, 4]) := by decide +kernel
theorem kc_146_98 : xe_code 146 98 = some (.iinc 6 1, []) := by decide +kernel
theorem kc_146_101 : xe_code 146 101 = some (.goto (-28), [73]) := by decide +kernel
theorem kc_146_104 : xe_code 146 104 = some (.aload_n 0, []) := by decide +kernel
theorem kc_146_105 : xe_code 146 105 = some (.getfield 22, [3, 3, 235]) := by decide +kernel
theorem kc_146_108 : xe_code 146 108 = some (.iload 5, []) := by decide +kernel
theorem kc_146_110 : xe_code 146 110 = some (.iaload, []) := by decide +kernel
theorem kc_146_111 : xe_code 146 111 = some (.istore 4, []) := by decide +kernel
theorem kc_146_113 : xe_code 146 113 = some (.lload_n 2, []) := by decide +kernel
theorem kc_146_114 : xe_code 146 114 = some (.aload_n 0, []) := by decide +kernel
theorem kc_146_115 : xe_code 146 115 = some (.iload 5, []) := by decide +kernel
theorem kc_146_117 : xe_code 146 117 = some (.invokevirtual 68, [147, 1, 657, 3]) := by decide +kernel
theorem kc_146_120 : xe_code 146 120 = some (.i2l, []) := by decide +kernel
theorem kc_146_121 : xe_code 146 121 = some (.ladd, []) := by decide +kernel
theorem kc_146_122 : xe_code 146 122 = some (.lstore_n 2, []) := by decide +kernel
theorem kc_146_123 : xe_code 146 123 = some (.iinc 5 1, []) := by decide +kernel
theorem kc_146_126 : xe_code 146 126 = some (.goto (-73), [53]) := by decide +kernel
theorem kc_146_129 : xe_code 146 129 = some (.aload_n 0, []) := by decide +kernel
theorem kc_146_130 : xe_code 146 130 = some (.getfield 31, [3, 6, 238]) := by decide +kernel
theorem kc_146_133 : xe_code 146 133 = some (.iload_n 1, []) := by decide +kernel
theorem kc_146_134 : xe_code 146 134 = some (.lload_n 2, []) := by decide +kernel
theorem kc_146_135 : xe_code 146 135 = some (.lastore, []) := by decide +kernel
theorem kc_146_136 : xe_code 146 136 = some (.aload_n 0, []) := by decide +kernel
theorem kc_146_137 : xe_code 146 137 = some (.dup, []) := by decide +kernel
theorem kc_146_138 : xe_code 146 138 = some (.getfield 39, [3, 7, 239]) := by decide +kernel
theorem kc_146_141 : xe_code 146 141 = some (.lconst 1, []) := by decide +kernel
theorem kc_146_142 : xe_code 146 142 = some (.iload_n 1, []) := by decide +kernel
theorem kc_146_143 : xe_code 146 143 = some (.lshl, []) := by decide +kernel
theorem kc_146_144 : xe_code 146 144 = some (.lor, []) := by decide +kernel
theorem kc_146_145 : xe_code 146 145 = some (.putfield 39, [3, 7, 239]) := by decide +kernel
theorem kc_146_148 : xe_code 146 148 = some (.lload_n 2, []) := by decide +kernel
theorem kc_146_149 : xe_code 146 149 = some (.lreturn, []) := by decide +kernel
theorem kc_147_0 : xe_code 147 0 = some (.iload_n 1, []) := by decide +kernel
theorem kc_147_1 : xe_code 147 1 = some (.ifCond .lt 21, [22]) := by decide +kernel
theorem kc_147_4 : xe_code 147 4 = some (.iload_n 1, []) := by decide +kernel
theorem kc_147_5 : xe_code 147 5 = some (.bipush 60, []) := by decide +kernel
theorem kc_147_7 : xe_code 147 7 = some (.if_icmp .ge 15, [22]) := by decide +kernel
theorem kc_147_10 : xe_code 147 10 = some (.aload_n 0, []) := by decide +kernel
theorem kc_147_11 : xe_code 147 11 = some (.getfield 18, [3, 2, 234]) := by decide +kernel
theorem kc_147_14 : xe_code 147 14 = some (.iload_n 1, []) := by decide +kernel
theorem kc_147_15 : xe_code 147 15 = some (.iaload, []) := by decide +kernel
theorem kc_147_16 : xe_code 147 16 = some (.invokestatic 72, [104, 1, 643, 0]) := by decide +kernel
theorem kc_147_19 : xe_code 147 19 = some (.ifCond .ne 5, [24]) := by decide +kernel
theorem kc_147_22 : xe_code 147 22 = some (.iconst 0, []) := by decide +kernel
theorem kc_147_23 : xe_code 147 23 = some (.ireturn, []) := by decide +kernel
theorem kc_147_24 : xe_code 147 24 = some (.aload_n 0, []) := by decide +kernel
theorem kc_147_25 : xe_code 147 25 = some (.getfield 12, [3, 1, 233]) := by decide +kernel
theorem kc_147_28 : xe_code 147 28 = some (.getfield 75, [9, 1, 206]) := by decide +kernel
theorem kc_147_31 : xe_code 147 31 = some (.aload_n 0, []) := by decide +kernel
theorem kc_147_32 : xe_code 147 32 = some (.getfield 18, [3, 2, 234]) := by decide +kernel
theorem kc_147_35 : xe_code 147 35 = some (.iload_n 1, []) := by decide +kernel
theorem kc_147_36 : xe_code 147 36 = some (.iaload, []) := by decide +kernel
theorem kc_147_37 : xe_code 147 37 = some (.iaload, []) := by decide +kernel
theorem kc_147_38 : xe_code 147 38 = some (.istore_n 2, []) := by decide +kernel
theorem kc_147_39 : xe_code 147 39 = some (.iload_n 2, []) := by decide +kernel
theorem kc_147_40 : xe_code 147 40 = some (.aload_n 0, []) := by decide +kernel
theorem kc_147_41 : xe_code 147 41 = some (.getfield 25, [3, 4, 236]) := by decide +kernel
theorem kc_147_44 : xe_code 147 44 = some (.iload_n 1, []) := by decide +kernel
theorem kc_147_45 : xe_code 147 45 = some (.iaload, []) := by decide +kernel
theorem kc_147_46 : xe_code 147 46 = some (.if_icmp .ge 12, [58]) := by decide +kernel
theorem kc_147_49 : xe_code 147 49 = some (.aload_n 0, []) := by decide +kernel
theorem kc_147_50 : xe_code 147 50 = some (.getfield 25, [3, 4, 236]) := by decide +kernel
theorem kc_147_53 : xe_code 147 53 = some (.iload_n 1, []) := by decide +kernel
theorem kc_147_54 : xe_code 147 54 = some (.iaload, []) := by decide +kernel
theorem kc_147_55 : xe_code 147 55 = some (.iload_n 2, []) := by decide +kernel
theorem kc_147_56 : xe_code 147 56 = some (.isub, []) := by decide +kernel
theorem kc_147_57 : xe_code 147 57 = some (.ireturn, []) := by decide +kernel
theorem kc_147_58 : xe_code 147 58 = some (.iload_n 2, []) := by decide +kernel
theorem kc_147_59 : xe_code 147 59 = some (.aload_n 0, []) := by decide +kernel
theorem kc_147_60 : xe_code 147 60 = some (.getfield 28, [3, 5, 237]) := by decide +kernel
theorem kc_147_63 : xe_code 147 63 = some (.iload_n 1, []) := by decide +kernel
theorem kc_147_64 : xe_code 147 64 = some (.iaload, []) := by decide +kernel
theorem kc_147_65 : xe_code 147 65 = some (.if_icmp .le 14, [79]) := by decide +kernel
theorem kc_147_68 : xe_code 147 68 = some (.iload_n 2, []) := by decide +kernel
theorem kc_147_69 : xe_code 147 69 = some (.aload_n 0, []) := by decide +kernel
theorem kc_147_70 : xe_code 147 70 = some (.getfield 28, [3, 5, 237]) := by decide +kernel
theorem kc_147_73 : xe_code 147 73 = some (.iload_n 1, []) := by decide +kernel
theorem kc_147_74 : xe_code 147 74 = some (.iaload, []) := by decide +kernel
theorem kc_147_75 : xe_code 147 75 = some (.isub, []) := by decide +kernel
theorem kc_147_76 : xe_code 147 76 = some (.goto 4, [80]) := by decide +kernel
theorem kc_147_79 : xe_code 147 79 = some (.iconst 0, []) := by decide +kernel
theorem kc_147_80 : xe_code 147 80 = some (.ireturn, []) := by decide +kernel
theorem kc_148_0 : xe_code 148 0 = some (.iload_n 1, []) := by decide +kernel
theorem kc_148_1 : xe_code 148 1 = some (.ifCond .eq 15, [16]) := by decide +kernel
theorem kc_148_4 : xe_code 148 4 = some (.iload_n 1, []) := by decide +kernel
theorem kc_148_5 : xe_code 148 5 = some (.iconst 1, []) := by decide +kernel
theorem kc_148_6 : xe_code 148 6 = some (.if_icmp .eq 10, [16]) := by decide +kernel
theorem kc_148_9 : xe_code 148 9 = some (.aload_n 0, []) := by decide +kernel
theorem kc_148_10 : xe_code 148 10 = some (.bipush (-2), []) := by decide +kernel
theorem kc_148_12 : xe_code 148 12 = some (.invokevirtual 72, [90, 1, 407, 0]) := by decide +kernel
theorem kc_148_15 : xe_code 148 15 = some (.ireturn, []) := by decide +kernel
theorem kc_148_16 : xe_code 148 16 = some (.aload_n 0, []) := by decide +kernel
theorem kc_148_17 : xe_code 148 17 = some (.getfield 28, [0, 2, 371]) := by decide +kernel
theorem kc_148_20 : xe_code 148 20 = some (.invokevirtual 211, [149, 0, 671, 3]) := by decide +kernel
theorem kc_148_23 : xe_code 148 23 = some (.istore_n 2, []) := by decide +kernel
theorem kc_148_24 : xe_code 148 24 = some (.iload_n 2, []) := by decide +kernel
theorem kc_148_25 : xe_code 148 25 = some (.bipush (-9), []) := by decide +kernel
theorem kc_148_27 : xe_code 148 27 = some (.if_icmp .eq 8, [35]) := by decide +kernel
theorem kc_148_30 : xe_code 148 30 = some (.iload_n 1, []) := by decide +kernel
theorem kc_148_31 : xe_code 148 31 = some (.iconst 1, []) := by decide +kernel
theorem kc_148_32 : xe_code 148 32 = some (.if_icmp .ne 5, [37]) := by decide +kernel
theorem kc_148_35 : xe_code 148 35 = some (.iload_n 2, []) := by decide +kernel
theorem kc_148_36 : xe_code 148 36 = some (.ireturn, []) := by decide +kernel
theorem kc_148_37 : xe_code 148 37 = some (.aload_n 0, []) := by decide +kernel
theorem kc_148_38 : xe_code 148 38 = some (.getfield 28, [0, 2, 371]) := by decide +kernel
theorem kc_148_41 : xe_code 148 41 = some (.iload_n 2, []) := by decide +kernel
theorem kc_148_42 : xe_code 148 42 = some (.invokevirtual 214, [150, 1, 675, 3]) := by decide +kernel
theorem kc_148_45 : xe_code 148 45 = some (.ireturn, []) := by decide +kernel
theorem kc_149_0 : xe_code 149 0 = some (.bipush (-9), []) := by decide +kernel
theorem kc_149_2 : xe_code 149 2 = some (.istore_n 1, []) := by decide +kernel
theorem kc_149_3 : xe_code 149 3 = some (.iconst 0, []) := by decide +kernel
theorem kc_149_4 : xe_code 149 4 = some (.istore_n 2, []) := by decide +kernel
theorem kc_149_5 : xe_code 149 5 = some (.iload_n 2, []) := by decide +kernel
theorem kc_149_6 : xe_code 149 6 = some (.aload_n 0, []) := by decide +kernel
theorem kc_149_7 : xe_code 149 7 = some (.invokevirtual 47, [139, 0, 621, 3]) := by decide +kernel
theorem kc_149_10 : xe_code 149 10 = some (.if_icmp .ge 37, [47]) := by decide +kernel
theorem kc_149_13 : xe_code 149 13 = some (.iload_n 2, []) := by decide +kernel
theorem kc_149_14 : xe_code 149 14 = some (.invokestatic 82, [4, 1, 661, 0]) := by decide +kernel
theorem kc_149_17 : xe_code 149 17 = some (.istore_n 3, []) := by decide +kernel
theorem kc_149_18 : xe_code 149 18 = some (.aload_n 0, []) := by decide +kernel
theorem kc_149_19 : xe_code 149 19 = some (.iload_n 2, []) := by decide +kernel
theorem kc_149_20 : xe_code 149 20 = some (.invokevirtual 78, [146, 1, 652, 3]) := by decide +kernel
theorem kc_149_23 : xe_code 149 23 = some (.lconst 0, []) := by decide +kernel
theorem kc_149_24 : xe_code 149 24 = some (.lcmp, []) := by decide +kernel
theorem kc_149_25 : xe_code 149 25 = some (.ifCond .ne 16, [41]) := by decide +kernel
theorem kc_149_28 : xe_code 149 28 = some (.iload_n 1, []) := by decide +kernel
theorem kc_149_29 : xe_code 149 29 = some (.bipush (-9), []) := by decide +kernel
theorem kc_149_31 : xe_code 149 31 = some (.if_icmp .eq 8, [39]) := by decide +kernel
theorem kc_149_34 : xe_code 149 34 = some (.iload_n 3, []) := by decide +kernel
theorem kc_149_35 : xe_code 149 35 = some (.iload_n 1, []) := by decide +kernel
theorem kc_149_36 : xe_code 149 36 = some (.if_icmp .ge 5, [41]) := by decide +kernel
theorem kc_149_39 : xe_code 149 39 = some (.iload_n 3, []) := by decide +kernel
theorem kc_149_40 : xe_code 149 40 = some (.istore_n 1, []) := by decide +kernel
theorem kc_149_41 : xe_code 149 41 = some (.iinc 2 1, []) := by decide +kernel
theorem kc_149_44 : xe_code 149 44 = some (.goto (-39), [5]) := by decide +kernel
theorem kc_149_47 : xe_code 149 47 = some (.iload_n 1, []) := by decide +kernel
theorem kc_149_48 : xe_code 149 48 = some (.ireturn, []) := by decide +kernel
theorem kc_150_0 : xe_code 150 0 = some (.iconst 0, []) := by decide +kernel
theorem kc_150_1 : xe_code 150 1 = some (.istore_n 2, []) := by decide +kernel
theorem kc_150_2 : xe_code 150 2 = some (.iconst 0, []) := by decide +kernel
theorem kc_150_3 : xe_code 150 3 = some (.istore_n 3, []) := by decide +kernel
theorem kc_150_4 : xe_code 150 4 = some (.iload_n 3, []) := by decide +kernel
theorem kc_150_5 : xe_code 150 5 = some (.aload_n 0, []) := by decide +kernel
theorem kc_150_6 : xe_code 150 6 = some (.invokevirtual 47, [139, 0, 621, 3]) := by decide +kernel
theorem kc_150_9 : xe_code 150 9 = some (.if_icmp .ge 30, [39]) := by decide +kernel
theorem kc_150_12 : xe_code 150 12 = some (.iload_n 3, []) := by decide +kernel
theorem kc_150_13 : xe_code 150 13 = some (.invokestatic 82, [4, 1, 661, 0]) := by decide +kernel
theorem kc_150_16 : xe_code 150 16 = some (.iload_n 1, []) := by decide +kernel
theorem kc_150_17 : xe_code 150 17 = some (.if_icmp .ne 16, [33]) := by decide +kernel
theorem kc_150_20 : xe_code 150 20 = some (.aload_n 0, []) := by decide +kernel
theorem kc_150_21 : xe_code 150 21 = some (.iload_n 3, []) := by decide +kernel
theorem kc_150_22 : xe_code 150 22 = some (.invokevirtual 78, [146, 1, 652, 3]) := by decide +kernel
theorem kc_150_25 : xe_code 150 25 = some (.lconst 0, []) := by decide +kernel
theorem kc_150_26 : xe_code 150 26 = some (.lcmp, []) := by decide +kernel
theorem kc_150_27 : xe_code 150 27 = some (.ifCond .ne 6, [33]) := by decide +kernel
theorem kc_150_30 : xe_code 150 30 = some (.iinc 2 1, []) := by decide +kernel
theorem kc_150_33 : xe_code 150 33 = some (.iinc 3 1, []) := by decide +kernel
theorem kc_150_36 : xe_code 150 36 = some (.goto (-32), [4]) := by decide +kernel
theorem kc_150_39 : xe_code 150 39 = some (.iload_n 2, []) := by decide +kernel
theorem kc_150_40 : xe_code 150 40 = some (.ireturn, []) := by decide +kernel
theorem kc_151_0 : xe_code 151 0 = some (.aload_n 0, []) := by decide +kernel
theorem kc_151_1 : xe_code 151 1 = some (.invokevirtual 217, [152, 0, 683, 0]) := by decide +kernel
theorem kc_151_4 : xe_code 151 4 = some (.invokestatic 221, [5, 1, 696, 0]) := by decide +kernel
theorem kc_151_7 : xe_code 151 7 = some (.ireturn, []) := by decide +kernel
theorem kc_152_0 : xe_code 152 0 = some (.aload_n 0, []) := by decide +kernel
theorem kc_152_1 : xe_code 152 1 = some (.getfield 35, [0, 3, 372]) := by decide +kernel
theorem kc_152_4 : xe_code 152 4 = some (.aload_n 0, []) := by decide +kernel
theorem kc_152_5 : xe_code 152 5 = some (.getfield 28, [0, 2, 371]) := by decide +kernel
theorem kc_152_8 : xe_code 152 8 = some (.invokevirtual 311, [153, 0, 687, 3]) := by decide +kernel
theorem kc_152_11 : xe_code 152 11 = some (.invokevirtual 314, [154, 1, 691, 6]) := by decide +kernel
theorem kc_152_14 : xe_code 152 14 = some (.lreturn, []) := by decide +kernel
theorem kc_153_0 : xe_code 153 0 = some (.lconst 0, []) := by decide +kernel
theorem kc_153_1 : xe_code 153 1 = some (.lstore_n 1, []) := by decide +kernel
theorem kc_153_2 : xe_code 153 2 = some (.iconst 0, []) := by decide +kernel
theorem kc_153_3 : xe_code 153 3 = some (.istore_n 3, []) := by decide +kernel
theorem kc_153_4 : xe_code 153 4 = some (.iload_n 3, []) := by decide +kernel
theorem kc_153_5 : xe_code 153 5 = some (.aload_n 0, []) := by decide +kernel
theorem kc_153_6 : xe_code 153 6 = some (.invokevirtual 47, [139, 0, 621, 3]) := by decide +kernel
theorem kc_153_9 : xe_code 153 9 = some (.if_icmp .ge 25, [34]) := by decide +kernel
theorem kc_153_12 : xe_code 153 12 = some (.aload_n 0, []) := by decide +kernel
theorem kc_153_13 : xe_code 153 13 = some (.iload_n 3, []) := by decide +kernel
theorem kc_153_14 : xe_code 153 14 = some (.invokevirtual 78, [146, 1, 652, 3]) := by decide +kernel
theorem kc_153_17 : xe_code 153 17 = some (.lconst 0, []) := by decide +kernel
theorem kc_153_18 : xe_code 153 18 = some (.lcmp, []) := by decide +kernel
theorem kc_153_19 : xe_code 153 19 = some (.ifCond .ne 9, [28]) := by decide +kernel
theorem kc_153_22 : xe_code 153 22 = some (.lload_n 1, []) := by decide +kernel
theorem kc_153_23 : xe_code 153 23 = some (.lconst 1, []) := by decide +kernel
theorem kc_153_24 : xe_code 153 24 = some (.iload_n 3, []) := by decide +kernel
theorem kc_153_25 : xe_code 153 25 = some (.lshl, []) := by decide +kernel
theorem kc_153_26 : xe_code 153 26 = some (.lor, []) := by decide +kernel
theorem kc_153_27 : xe_code 153 27 = some (.lstore_n 1, []) := by decide +kernel
theorem kc_153_28 : xe_code 153 28 = some (.iinc 3 1, []) := by decide +kernel
theorem kc_153_31 : xe_code 153 31 = some (.goto (-27), [4]) := by decide +kernel
theorem kc_153_34 : xe_code 153 34 = some (.lload_n 1, []) := by decide +kernel
theorem kc_153_35 : xe_code 153 35 = some (.lreturn, []) := by decide +kernel
theorem kc_154_0 : xe_code 154 0 = some (.lload_n 1, []) := by decide +kernel
theorem kc_154_1 : xe_code 154 1 = some (.lstore_n 3, []) := by decide +kernel
theorem kc_154_2 : xe_code 154 2 = some (.iconst 0, []) := by decide +kernel
theorem kc_154_3 : xe_code 154 3 = some (.istore 5, []) := by decide +kernel
theorem kc_154_5 : xe_code 154 5 = some (.iload 5, []) := by decide +kernel
theorem kc_154_7 : xe_code 154 7 = some (.aload_n 0, []) := by decide +kernel
theorem kc_154_8 : xe_code 154 8 = some (.getfield 25, [6, 4, 273]) := by decide +kernel
theorem kc_154_11 : xe_code 154 11 = some (.if_icmp .ge 65, [76]) := by decide +kernel
theorem kc_154_14 : xe_code 154 14 = some (.iload 5, []) := by decide +kernel
theorem kc_154_16 : xe_code 154 16 = some (.bipush 8, []) := by decide +kernel
theorem kc_154_18 : xe_code 154 18 = some (.if_icmp .ge 58, [76]) := by decide +kernel
theorem kc_154_21 : xe_code 154 21 = some (.aload_n 0, []) := by decide +kernel
theorem kc_154_22 : xe_code 154 22 = some (.getfield 22, [6, 3, 271]) := by decide +kernel
theorem kc_154_25 : xe_code 154 25 = some (.iload 5, []) := by decide +kernel
theorem kc_154_27 : xe_code 154 27 = some (.iaload, []) := by decide +kernel
theorem kc_154_28 : xe_code 154 28 = some (.iconst 1, []) := by decide +kernel
theorem kc_154_29 : xe_code 154 29 = some (.if_icmp .ne 16, [45]) := by decide +kernel
theorem kc_154_32 : xe_code 154 32 = some (.lload_n 3, []) := by decide +kernel
theorem kc_154_33 : xe_code 154 33 = some (.aload_n 0, []) := by decide +kernel
theorem kc_154_34 : xe_code 154 34 = some (.getfield 9, [6, 0, 268]) := by decide +kernel
theorem kc_154_37 : xe_code 154 37 = some (.iload 5, []) := by decide +kernel
theorem kc_154_39 : xe_code 154 39 = some (.laload, []) := by decide +kernel
theorem kc_154_40 : xe_code 154 40 = some (.land, []) := by decide +kernel
theorem kc_154_41 : xe_code 154 41 = some (.lstore_n 3, []) := by decide +kernel
theorem kc_154_42 : xe_code 154 42 = some (.goto 28, [70]) := by decide +kernel
theorem kc_154_45 : xe_code 154 45 = some (.aload_n 0, []) := by decide +kernel
theorem kc_154_46 : xe_code 154 46 = some (.getfield 22, [6, 3, 271]) := by decide +kernel
theorem kc_154_49 : xe_code 154 49 = some (.iload 5, []) := by decide +kernel
theorem kc_154_51 : xe_code 154 51 = some (.iaload, []) := by decide +kernel
theorem kc_154_52 : xe_code 154 52 = some (.iconst 2, []) := by decide +kernel
theorem kc_154_53 : xe_code 154 53 = some (.if_icmp .ne 17, [70]) := by decide +kernel
theorem kc_154_56 : xe_code 154 56 = some (.lload_n 3, []) := by decide +kernel
theorem kc_154_57 : xe_code 154 57 = some (.aload_n 0, []) := by decide +kernel
theorem kc_154_58 : xe_code 154 58 = some (.getfield 9, [6, 0, 268]) := by decide +kernel
theorem kc_154_61 : xe_code 154 61 = some (.iload 5, []) := by decide +kernel
theorem kc_154_63 : xe_code 154 63 = some (.laload, []) := by decide +kernel
theorem kc_154_64 : xe_code 154 64 = some (.ldc2_w 29, [18446744073709551615, 695]) := by decide +kernel
theorem kc_154_67 : xe_code 154 67 = some (.lxor, []) := by decide +kernel
theorem kc_154_68 : xe_code 154 68 = some (.land, []) := by decide +kernel
theorem kc_154_69 : xe_code 154 69 = some (.lstore_n 3, []) := by decide +kernel
theorem kc_154_70 : xe_code 154 70 = some (.iinc 5 1, []) := by decide +kernel
theorem kc_154_73 : xe_code 154 73 = some (.goto (-68), [5]) := by decide +kernel
theorem kc_154_76 : xe_code 154 76 = some (.lload_n 3, []) := by decide +kernel
theorem kc_154_77 : xe_code 154 77 = some (.lreturn, []) := by decide +kernel
theorem kc_155_0 : xe_code 155 0 = some (.iload_n 1, []) := by decide +kernel
theorem kc_155_1 : xe_code 155 1 = some (.ifCond .lt 9, [10]) := by decide +kernel
theorem kc_155_4 : xe_code 155 4 = some (.iload_n 1, []) := by decide +kernel
theorem kc_155_5 : xe_code 155 5 = some (.bipush 64, []) := by decide +kernel
theorem kc_155_7 : xe_code 155 7 = some (.if_icmp .lt 10, [17]) := by decide +kernel
theorem kc_155_10 : xe_code 155 10 = some (.aload_n 0, []) := by decide +kernel
theorem kc_155_11 : xe_code 155 11 = some (.bipush (-2), []) := by decide +kernel
theorem kc_155_13 : xe_code 155 13 = some (.invokevirtual 72, [90, 1, 407, 0]) := by decide +kernel
theorem kc_155_16 : xe_code 155 16 = some (.ireturn, []) := by decide +kernel
theorem kc_155_17 : xe_code 155 17 = some (.iload_n 2, []) := by decide +kernel
theorem kc_155_18 : xe_code 155 18 = some (.iconst 1, []) := by decide +kernel
theorem kc_155_19 : xe_code 155 19 = some (.if_icmp .ge 10, [29]) := by decide +kernel
theorem kc_155_22 : xe_code 155 22 = some (.aload_n 0, []) := by decide +kernel
theorem kc_155_23 : xe_code 155 23 = some (.bipush (-4), []) := by decide +kernel
theorem kc_155_25 : xe_code 155 25 = some (.invokevirtual 72, [90, 1, 407, 0]) := by decide +kernel
theorem kc_155_28 : xe_code 155 28 = some (.ireturn, []) := by decide +kernel
theorem kc_155_29 : xe_code 155 29 = some (.iload_n 2, []) := by decide +kernel
theorem kc_155_30 : xe_code 155 30 = some (.sipush 999, []) := by decide +kernel
theorem kc_155_33 : xe_code 155 33 = some (.if_icmp .gt 15, [48]) := by decide +kernel
theorem kc_155_36 : xe_code 155 36 = some (.aload_n 0, []) := by decide +kernel
theorem kc_155_37 : xe_code 155 37 = some (.getfield 35, [0, 3, 372]) := by decide +kernel
theorem kc_155_40 : xe_code 155 40 = some (.getfield 227, [6, 4, 274]) := by decide +kernel
theorem kc_155_43 : xe_code 155 43 = some (.bipush 8, []) := by decide +kernel
theorem kc_155_45 : xe_code 155 45 = some (.if_icmp .lt 10, [55]) := by decide +kernel
theorem kc_155_48 : xe_code 155 48 = some (.aload_n 0, []) := by decide +kernel
theorem kc_155_49 : xe_code 155 49 = some (.bipush (-6), []) := by decide +kernel
theorem kc_155_51 : xe_code 155 51 = some (.invokevirtual 72, [90, 1, 407, 0]) := by decide +kernel
theorem kc_155_54 : xe_code 155 54 = some (.ireturn, []) := by decide +kernel
theorem kc_155_55 : xe_code 155 55 = some (.aload_n 0, []) := by decide +kernel
theorem kc_155_56 : xe_code 155 56 = some (.getfield 35, [0, 3, 372]) := by decide +kernel
theorem kc_155_59 : xe_code 155 59 = some (.iload_n 1, []) := by decide +kernel
theorem kc_155_60 : xe_code 155 60 = some (.iload_n 2, []) := by decide +kernel
theorem kc_155_61 : xe_code 155 61 = some (.invokevirtual 228, [156, 2, 706, 6]) := by decide +kernel
theorem kc_155_64 : xe_code 155 64 = some (.ireturn, []) := by decide +kernel
theorem kc_156_0 : xe_code 156 0 = some (.aload_n 0, []) := by decide +kernel
theorem kc_156_1 : xe_code 156 1 = some (.getfield 25, [6, 4, 273]) := by decide +kernel
theorem kc_156_4 : xe_code 156 4 = some (.bipush 8, []) := by decide +kernel
theorem kc_156_6 : xe_code 156 6 = some (.if_icmp .lt 6, [12]) := by decide +kernel
theorem kc_156_9 : xe_code 156 9 = some (.bipush (-9), []) := by decide +kernel
theorem kc_156_11 : xe_code 156 11 = some (.ireturn, []) := by decide +kernel
theorem kc_156_12 : xe_code 156 12 = some (.lconst 0, []) := by decide +kernel
theorem kc_156_13 : xe_code 156 13 = some (.lstore_n 3, []) := by decide +kernel
theorem kc_156_14 : xe_code 156 14 = some (.iconst 0, []) := by decide +kernel
theorem kc_156_15 : xe_code 156 15 = some (.istore 5, []) := by decide +kernel
theorem kc_156_17 : xe_code 156 17 = some (.iload 5, []) := by decide +kernel
theorem kc_156_19 : xe_code 156 19 = some (.bipush 64, []) := by decide +kernel
theorem kc_156_21 : xe_code 156 21 = some (.if_icmp .ge 23, [44]) := by decide +kernel
theorem kc_156_24 : xe_code 156 24 = some (.iload 5, []) := by decide +kernel
theorem kc_156_26 : xe_code 156 26 = some (.iload_n 1, []) := by decide +kernel
theorem kc_156_27 : xe_code 156 27 = some (.iand, []) := by decide +kernel
theorem kc_156_28 : xe_code 156 28 = some (.ifCond .eq 10, [38]) := by decide +kernel
theorem kc_156_31 : xe_code 156 31 = some (.lload_n 3, []) := by decide +kernel
theorem kc_156_32 : xe_code 156 32 = some (.lconst 1, []) := by decide +kernel
theorem kc_156_33 : xe_code 156 33 = some (.iload 5, []) := by decide +kernel
theorem kc_156_35 : xe_code 156 35 = some (.lshl, []) := by decide +kernel
theorem kc_156_36 : xe_code 156 36 = some (.lor, []) := by decide +kernel
theorem kc_156_37 : xe_code 156 37 = some (.lstore_n 3, []) := by decide +kernel
theorem kc_156_38 : xe_code 156 38 = some (.iinc 5 1, []) := by decide +kernel
theorem kc_156_41 : xe_code 156 41 = some (.goto (-24), [17]) := by decide +kernel
theorem kc_156_44 : xe_code 156 44 = some (.aload_n 0, []) := by decide +kernel
theorem kc_156_45 : xe_code 156 45 = some (.getfield 9, [6, 0, 268]) := by decide +kernel
theorem kc_156_48 : xe_code 156 48 = some (.aload_n 0, []) := by decide +kernel
theorem kc_156_49 : xe_code 156 49 = some (.getfield 25, [6, 4, 273]) := by decide +kernel
theorem kc_156_52 : xe_code 156 52 = some (.lload_n 3, []) := by decide +kernel
theorem kc_156_53 : xe_code 156 53 = some (.lastore, []) := by decide +kernel
theorem kc_156_54 : xe_code 156 54 = some (.aload_n 0, []) := by decide +kernel
theorem kc_156_55 : xe_code 156 55 = some (.getfield 15, [6, 1, 269]) := by decide +kernel
theorem kc_156_58 : xe_code 156 58 = some (.aload_n 0, []) := by decide +kernel
theorem kc_156_59 : xe_code 156 59 = some (.getfield 25, [6, 4, 273]) := by decide +kernel
theorem kc_156_62 : xe_code 156 62 = some (.iload_n 2, []) := by decide +kernel
theorem kc_156_63 : xe_code 156 63 = some (.iastore, []) := by decide +kernel
theorem kc_156_64 : xe_code 156 64 = some (.aload_n 0, []) := by decide +kernel
theorem kc_156_65 : xe_code 156 65 = some (.dup, []) := by decide +kernel
theorem kc_156_66 : xe_code 156 66 = some (.getfield 25, [6, 4, 273]) := by decide +kernel
theorem kc_156_69 : xe_code 156 69 = some (.iconst 1, []) := by decide +kernel
theorem kc_156_70 : xe_code 156 70 = some (.iadd, []) := by decide +kernel
theorem kc_156_71 : xe_code 156 71 = some (.putfield 25, [6, 4, 273]) := by decide +kernel
theorem kc_156_74 : xe_code 156 74 = some (.aload_n 0, []) := by decide +kernel
theorem kc_156_75 : xe_code 156 75 = some (.getfield 25, [6, 4, 273]) := by decide +kernel
theorem kc_156_78 : xe_code 156 78 = some (.iconst 1, []) := by decide +kernel
theorem kc_156_79 : xe_code 156 79 = some (.isub, []) := by decide +kernel
theorem kc_156_80 : xe_code 156 80 = some (.ireturn, []) := by decide +kernel
theorem kc_157_0 : xe_code 157 0 = some (.iload_n 1, []) := by decide +kernel
theorem kc_157_1 : xe_code 157 1 = some (.ifCond .lt 20, [21]) := by decide +kernel
theorem kc_157_4 : xe_code 157 4 = some (.iload_n 1, []) := by decide +kernel
theorem kc_157_5 : xe_code 157 5 = some (.aload_n 0, []) := by decide +kernel
theorem kc_157_6 : xe_code 157 6 = some (.getfield 35, [0, 3, 372]) := by decide +kernel
theorem kc_157_9 : xe_code 157 9 = some (.getfield 227, [6, 4, 274]) := by decide +kernel
theorem kc_157_12 : xe_code 157 12 = some (.if_icmp .ge 9, [21]) := by decide +kernel
theorem kc_157_15 : xe_code 157 15 = some (.iload_n 1, []) := by decide +kernel
theorem kc_157_16 : xe_code 157 16 = some (.bipush 8, []) := by decide +kernel
theorem kc_157_18 : xe_code 157 18 = some (.if_icmp .lt 9, [27]) := by decide +kernel
theorem kc_157_21 : xe_code 157 21 = some (.aload_n 0, []) := by decide +kernel
theorem kc_157_22 : xe_code 157 22 = some (.iconst (-1), []) := by decide +kernel
theorem kc_157_23 : xe_code 157 23 = some (.invokevirtual 72, [90, 1, 407, 0]) := by decide +kernel
theorem kc_157_26 : xe_code 157 26 = some (.ireturn, []) := by decide +kernel
theorem kc_157_27 : xe_code 157 27 = some (.aload_n 0, []) := by decide +kernel
theorem kc_157_28 : xe_code 157 28 = some (.getfield 35, [0, 3, 372]) := by decide +kernel
theorem kc_157_31 : xe_code 157 31 = some (.getfield 230, [6, 3, 272]) := by decide +kernel
theorem kc_157_34 : xe_code 157 34 = some (.iload_n 1, []) := by decide +kernel
theorem kc_157_35 : xe_code 157 35 = some (.iaload, []) := by decide +kernel
theorem kc_157_36 : xe_code 157 36 = some (.ifCond .eq 10, [46]) := by decide +kernel
theorem kc_157_39 : xe_code 157 39 = some (.aload_n 0, []) := by decide +kernel
theorem kc_157_40 : xe_code 157 40 = some (.bipush (-3), []) := by decide +kernel
theorem kc_157_42 : xe_code 157 42 = some (.invokevirtual 72, [90, 1, 407, 0]) := by decide +kernel
theorem kc_157_45 : xe_code 157 45 = some (.ireturn, []) := by decide +kernel
theorem kc_157_46 : xe_code 157 46 = some (.aload_n 0, []) := by decide +kernel
theorem kc_157_47 : xe_code 157 47 = some (.getfield 35, [0, 3, 372]) := by decide +kernel
theorem kc_157_50 : xe_code 157 50 = some (.getfield 230, [6, 3, 272]) := by decide +kernel
theorem kc_157_53 : xe_code 157 53 = some (.iload_n 1, []) := by decide +kernel
theorem kc_157_54 : xe_code 157 54 = some (.iload_n 2, []) := by decide +kernel
theorem kc_157_55 : xe_code 157 55 = some (.ifCond .eq 7, [62]) := by decide +kernel
theorem kc_157_58 : xe_code 157 58 = some (.iconst 1, []) := by decide +kernel
theorem kc_157_59 : xe_code 157 59 = some (.goto 4, [63]) := by decide +kernel
theorem kc_157_62 : xe_code 157 62 = some (.iconst 2, []) := by decide +kernel
theorem kc_157_63 : xe_code 157 63 = some (.iastore, []) := by decide +kernel
theorem kc_157_64 : xe_code 157 64 = some (.aload_n 0, []) := by decide +kernel
theorem kc_157_65 : xe_code 157 65 = some (.invokevirtual 217, [152, 0, 683, 0]) := by decide +kernel
theorem kc_157_68 : xe_code 157 68 = some (.invokestatic 221, [5, 1, 696, 0]) := by decide +kernel
theorem kc_157_71 : xe_code 157 71 = some (.ireturn, []) := by decide +kernel
theorem kc_158_0 : xe_code 158 0 = some (.aload_n 0, []) := by decide +kernel
theorem kc_158_1 : xe_code 158 1 = some (.getfield 35, [0, 3, 372]) := by decide +kernel
theorem kc_158_4 : xe_code 158 4 = some (.aload_n 0, []) := by decide +kernel
theorem kc_158_5 : xe_code 158 5 = some (.invokevirtual 217, [152, 0, 683, 0]) := by decide +kernel
theorem kc_158_8 : xe_code 158 8 = some (.invokevirtual 233, [159, 1, 718, 6]) := by decide +kernel
theorem kc_158_11 : xe_code 158 11 = some (.ireturn, []) := by decide +kernel
theorem kc_159_0 : xe_code 159 0 = some (.bipush (-9), []) := by decide +kernel
theorem kc_159_2 : xe_code 159 2 = some (.istore_n 3, []) := by decide +kernel
theorem kc_159_3 : xe_code 159 3 = some (.iconst 0, []) := by decide +kernel
theorem kc_159_4 : xe_code 159 4 = some (.istore 4, []) := by decide +kernel
theorem kc_159_6 : xe_code 159 6 = some (.iconst 0, []) := by decide +kernel
theorem kc_159_7 : xe_code 159 7 = some (.istore 5, []) := by decide +kernel
theorem kc_159_9 : xe_code 159 9 = some (.iload 5, []) := by decide +kernel
theorem kc_159_11 : xe_code 159 11 = some (.aload_n 0, []) := by decide +kernel
theorem kc_159_12 : xe_code 159 12 = some (.getfield 25, [6, 4, 273]) := by decide +kernel
theorem kc_159_15 : xe_code 159 15 = some (.if_icmp .ge 101, [116]) := by decide +kernel
theorem kc_159_18 : xe_code 159 18 = some (.iload 5, []) := by decide +kernel
theorem kc_159_20 : xe_code 159 20 = some (.bipush 8, []) := by decide +kernel
theorem kc_159_22 : xe_code 159 22 = some (.if_icmp .ge 94, [116]) := by decide +kernel
theorem kc_159_25 : xe_code 159 25 = some (.lload_n 1, []) := by decide +kernel
theorem kc_159_26 : xe_code 159 26 = some (.lconst 0, []) := by decide +kernel
theorem kc_159_27 : xe_code 159 27 = some (.lcmp, []) := by decide +kernel
theorem kc_159_28 : xe_code 159 28 = some (.ifCond .eq 88, [116]) := by decide +kernel
theorem kc_159_31 : xe_code 159 31 = some (.lload_n 1, []) := by decide +kernel
theorem kc_159_32 : xe_code 159 32 = some (.aload_n 0, []) := by decide +kernel
theorem kc_159_33 : xe_code 159 33 = some (.getfield 9, [6, 0, 268]) := by decide +kernel
theorem kc_159_36 : xe_code 159 36 = some (.iload 5, []) := by decide +kernel
theorem kc_159_38 : xe_code 159 38 = some (.laload, []) := by decide +kernel
theorem kc_159_39 : xe_code 159 39 = some (.land, []) := by decide +kernel
theorem kc_159_40 : xe_code 159 40 = some (.invokestatic 31, [5, 1, 722, 0]) := by decide +kernel
theorem kc_159_43 : xe_code 159 43 = some (.istore 6, []) := by decide +kernel
theorem kc_159_45 : xe_code 159 45 = some (.lload_n 1, []) := by decide +kernel
theorem kc_159_46 : xe_code 159 46 = some (.aload_n 0, []) := by decide +kernel
theorem kc_159_47 : xe_code 159 47 = some (.getfield 9, [6, 0, 268]) := by decide +kernel
theorem kc_159_50 : xe_code 159 50 = some (.iload 5, []) := by decide +kernel
theorem kc_159_52 : xe_code 159 52 = some (.laload, []) := by decide +kernel
theorem kc_159_53 : xe_code 159 53 = some (.ldc2_w 29, [18446744073709551615, 695]) := by decide +kernel
theorem kc_159_56 : xe_code 159 56 = some (.lxor, []) := by decide +kernel
theorem kc_159_57 : xe_code 159 57 = some (.land, []) := by decide +kernel
theorem kc_159_58 : xe_code 159 58 = some (.invokestatic 31, [5, 1, 722, 0]) := by decide +kernel
theorem kc_159_61 : xe_code 159 61 = some (.istore 7, []) := by decide +kernel
theorem kc_159_63 : xe_code 159 63 = some (.aload_n 0, []) := by decide +kernel
theorem kc_159_64 : xe_code 159 64 = some (.getfield 15, [6, 1, 269]) := by decide +kernel
theorem kc_159_67 : xe_code 159 67 = some (.iload 5, []) := by decide +kernel
theorem kc_159_69 : xe_code 159 69 = some (.iaload, []) := by decide +kernel
theorem kc_159_70 : xe_code 159 70 = some (.iload 6, []) := by decide +kernel
theorem kc_159_72 : xe_code 159 72 = some (.iload 7, []) := by decide +kernel
theorem kc_159_74 : xe_code 159 74 = some (.invokestatic 37, [6, 2, 723, 0]) := by decide +kernel
theorem kc_159_77 : xe_code 159 77 = some (.imul, []) := by decide +kernel
theorem kc_159_78 : xe_code 159 78 = some (.istore 8, []) := by decide +kernel
theorem kc_159_80 : xe_code 159 80 = some (.aload_n 0, []) := by decide +kernel
theorem kc_159_81 : xe_code 159 81 = some (.getfield 22, [6, 3, 271]) := by decide +kernel
theorem kc_159_84 : xe_code 159 84 = some (.iload 5, []) := by decide +kernel
theorem kc_159_86 : xe_code 159 86 = some (.iaload, []) := by decide +kernel
theorem kc_159_87 : xe_code 159 87 = some (.ifCond .ne 23, [110]) := by decide +kernel
theorem kc_159_90 : xe_code 159 90 = some (.iload_n 3, []) := by decide +kernel
theorem kc_159_91 : xe_code 159 91 = some (.bipush (-9), []) := by decide +kernel
theorem kc_159_93 : xe_code 159 93 = some (.if_icmp .eq 10, [103]) := by decide +kernel
theorem kc_159_96 : xe_code 159 96 = some (.iload 8, []) := by decide +kernel
theorem kc_159_98 : xe_code 159 98 = some (.iload 4, []) := by decide +kernel
theorem kc_159_100 : xe_code 159 100 = some (.if_icmp .ge 10, [110]) := by decide +kernel
theorem kc_159_103 : xe_code 159 103 = some (.iload 5, []) := by decide +kernel
theorem kc_159_105 : xe_code 159 105 = some (.istore_n 3, []) := by decide +kernel
theorem kc_159_106 : xe_code 159 106 = some (.iload 8, []) := by decide +kernel
theorem kc_159_108 : xe_code 159 108 = some (.istore 4, []) := by decide +kernel
theorem kc_159_110 : xe_code 159 110 = some (.iinc 5 1, []) := by decide +kernel
theorem kc_159_113 : xe_code 159 113 = some (.goto (-104), [9]) := by decide +kernel
theorem kc_159_116 : xe_code 159 116 = some (.iload_n 3, []) := by decide +kernel
theorem kc_159_117 : xe_code 159 117 = some (.ireturn, []) := by decide +kernel
theorem kc_160_0 : xe_code 160 0 = some (.aload_n 0, []) := by decide +kernel
theorem kc_160_1 : xe_code 160 1 = some (.getfield 35, [0, 3, 372]) := by decide +kernel
theorem kc_160_4 : xe_code 160 4 = some (.aload_n 0, []) := by decide +kernel
theorem kc_160_5 : xe_code 160 5 = some (.invokevirtual 217, [152, 0, 683, 0]) := by decide +kernel
theorem kc_160_8 : xe_code 160 8 = some (.invokevirtual 236, [161, 1, 730, 6]) := by decide +kernel
theorem kc_160_11 : xe_code 160 11 = some (.ireturn, []) := by decide +kernel
theorem kc_161_0 : xe_code 161 0 = some (.aload_n 0, []) := by decide +kernel
theorem kc_161_1 : xe_code 161 1 = some (.getfield 19, [6, 2, 270]) := by decide +kernel
theorem kc_161_4 : xe_code 161 4 = some (.bipush (-9), []) := by decide +kernel
theorem kc_161_6 : xe_code 161 6 = some (.invokestatic 43, [1, 2, 734, 0]) := by decide +kernel
theorem kc_161_9 : xe_code 161 9 = some (.aload_n 0, []) := by decide +kernel
theorem kc_161_10 : xe_code 161 10 = some (.lload_n 1, []) := by decide +kernel
theorem kc_161_11 : xe_code 161 11 = some (.iconst 0, []) := by decide +kernel
theorem kc_161_12 : xe_code 161 12 = some (.iconst 0, []) := by decide +kernel
theorem kc_161_13 : xe_code 161 13 = some (.invokevirtual 49, [162, 3, 735, 6]) := by decide +kernel
theorem kc_161_16 : xe_code 161 16 = some (.ireturn, []) := by decide +kernel
theorem kc_162_0 : xe_code 162 0 = some (.lload_n 1, []) := by decide +kernel
theorem kc_162_1 : xe_code 162 1 = some (.invokestatic 31, [5, 1, 722, 0]) := by decide +kernel
theorem kc_162_4 : xe_code 162 4 = some (.iconst 1, []) := by decide +kernel
theorem kc_162_5 : xe_code 162 5 = some (.if_icmp .le 21, [26]) := by decide +kernel
theorem kc_162_8 : xe_code 162 8 = some (.iload_n 3, []) := by decide +kernel
theorem kc_162_9 : xe_code 162 9 = some (.ifCond .lt 17, [26]) := by decide +kernel
theorem kc_162_12 : xe_code 162 12 = some (.iload_n 3, []) := by decide +kernel
theorem kc_162_13 : xe_code 162 13 = some (.sipush 6561, []) := by decide +kernel
theorem kc_162_16 : xe_code 162 16 = some (.if_icmp .ge 10, [26]) := by decide +kernel
theorem kc_162_19 : xe_code 162 19 = some (.iload 4, []) := by decide +kernel
theorem kc_162_21 : xe_code 162 21 = some (.bipush 8, []) := by decide +kernel
theorem kc_162_23 : xe_code 162 23 = some (.if_icmp .le 5, [28]) := by decide +kernel
theorem kc_162_26 : xe_code 162 26 = some (.iconst 0, []) := by decide +kernel
theorem kc_162_27 : xe_code 162 27 = some (.ireturn, []) := by decide +kernel
theorem kc_162_28 : xe_code 162 28 = some (.aload_n 0, []) := by decide +kernel
theorem kc_162_29 : xe_code 162 29 = some (.getfield 19, [6, 2, 270]) := by decide +kernel
theorem kc_162_32 : xe_code 162 32 = some (.iload_n 3, []) := by decide +kernel
theorem kc_162_33 : xe_code 162 33 = some (.iaload, []) := by decide +kernel
theorem kc_162_34 : xe_code 162 34 = some (.bipush (-9), []) := by decide +kernel
theorem kc_162_36 : xe_code 162 36 = some (.if_icmp .eq 10, [46]) := by decide +kernel
theorem kc_162_39 : xe_code 162 39 = some (.aload_n 0, []) := by decide +kernel
theorem kc_162_40 : xe_code 162 40 = some (.getfield 19, [6, 2, 270]) := by decide +kernel
theorem kc_162_43 : xe_code 162 43 = some (.iload_n 3, []) := by decide +kernel
theorem kc_162_44 : xe_code 162 44 = some (.iaload, []) := by decide +kernel
theorem kc_162_45 : xe_code 162 45 = some (.ireturn, []) := by decide +kernel
theorem kc_162_46 : xe_code 162 46 = some (.bipush (-9), []) := by decide +kernel
theorem kc_162_48 : xe_code 162 48 = some (.istore 5, []) := by decide +kernel
theorem kc_162_50 : xe_code 162 50 = some (.iconst 1, []) := by decide +kernel
theorem kc_162_51 : xe_code 162 51 = some (.istore 6, []) := by decide +kernel
theorem kc_162_53 : xe_code 162 53 = some (.iconst 0, []) := by decide +kernel
theorem kc_162_54 : xe_code 162 54 = some (.istore 7, []) := by decide +kernel
theorem kc_162_56 : xe_code 162 56 = some (.iload 7, []) := by decide +kernel
theorem kc_162_58 : xe_code 162 58 = some (.aload_n 0, []) := by decide +kernel
theorem kc_162_59 : xe_code 162 59 = some (.getfield 25, [6, 4, 273]) := by decide +kernel
theorem kc_162_62 : xe_code 162 62 = some (.if_icmp .ge 134, [196]) := by decide +kernel
theorem kc_162_65 : xe_code 162 65 = some (.iload 7, []) := by decide +kernel
theorem kc_162_67 : xe_code 162 67 = some (.bipush 8, []) := by decide +kernel
theorem kc_162_69 : xe_code 162 69 = some (.if_icmp .ge 127, [196]) := by decide +kernel
theorem kc_162_72 : xe_code 162 72 = some (.lload_n 1, []) := by decide +kernel
theorem kc_162_73 : xe_code 162 73 = some (.aload_n 0, []) := by decide +kernel
theorem kc_162_74 : xe_code 162 74 = some (.getfield 9, [6, 0, 268]) := by decide +kernel
theorem kc_162_77 : xe_code 162 77 = some (.iload 7, []) := by decide +kernel
theorem kc_162_79 : xe_code 162 79 = some (.laload, []) := by decide +kernel
theorem kc_162_80 : xe_code 162 80 = some (.land, []) := by decide +kernel
theorem kc_162_81 : xe_code 162 81 = some (.lstore 8, []) := by decide +kernel
theorem kc_162_83 : xe_code 162 83 = some (.lload_n 1, []) := by decide +kernel
theorem kc_162_84 : xe_code 162 84 = some (.aload_n 0, []) := by decide +kernel
theorem kc_162_85 : xe_code 162 85 = some (.getfield 9, [6, 0, 268]) := by decide +kernel
theorem kc_162_88 : xe_code 162 88 = some (.iload 7, []) := by decide +kernel
theorem kc_162_90 : xe_code 162 90 = some (.laload, []) := by decide +kernel
theorem kc_162_91 : xe_code 162 91 = some (.ldc2_w 29, [18446744073709551615, 695]) := by decide +kernel
theorem kc_162_94 : xe_code 162 94 = some (.lxor, []) := by decide +kernel
theorem kc_162_95 : xe_code 162 95 = some (.land, []) := by decide +kernel
theorem kc_162_96 : xe_code 162 96 = some (.lstore 10, []) := by decide +kernel
theorem kc_162_98 : xe_code 162 98 = some (.lload 8, []) := by decide +kernel
theorem kc_162_100 : xe_code 162 100 = some (.lconst 0, []) := by decide +kernel
theorem kc_162_101 : xe_code 162 101 = some (.lcmp, []) := by decide +kernel
theorem kc_162_102 : xe_code 162 102 = some (.ifCond .eq 82, [184]) := by decide +kernel
theorem kc_162_105 : xe_code 162 105 = some (.lload 10, []) := by decide +kernel
theorem kc_162_107 : xe_code 162 107 = some (.lconst 0, []) := by decide +kernel
theorem kc_162_108 : xe_code 162 108 = some (.lcmp, []) := by decide +kernel
theorem kc_162_109 : xe_code 162 109 = some (.ifCond .eq 75, [184]) := by decide +kernel
theorem kc_162_112 : xe_code 162 112 = some (.aload_n 0, []) := by decide +kernel
theorem kc_162_113 : xe_code 162 113 = some (.lload 8, []) := by decide +kernel
theorem kc_162_115 : xe_code 162 115 = some (.iload_n 3, []) := by decide +kernel
theorem kc_162_116 : xe_code 162 116 = some (.iload 6, []) := by decide +kernel
theorem kc_162_118 : xe_code 162 118 = some (.iadd, []) := by decide +kernel
theorem kc_162_119 : xe_code 162 119 = some (.iload 4, []) := by decide +kernel
theorem kc_162_121 : xe_code 162 121 = some (.iconst 1, []) := by decide +kernel
theorem kc_162_122 : xe_code 162 122 = some (.iadd, []) := by decide +kernel
theorem kc_162_123 : xe_code 162 123 = some (.invokevirtual 49, [162, 3, 735, 6]) := by decide +kernel
theorem kc_162_126 : xe_code 162 126 = some (.aload_n 0, []) := by decide +kernel
theorem kc_162_127 : xe_code 162 127 = some (.lload 10, []) := by decide +kernel
theorem kc_162_129 : xe_code 162 129 = some (.iload_n 3, []) := by decide +kernel
theorem kc_162_130 : xe_code 162 130 = some (.iconst 2, []) := by decide +kernel
theorem kc_162_131 : xe_code 162 131 = some (.iload 6, []) := by decide +kernel
theorem kc_162_133 : xe_code 162 133 = some (.imul, []) := by decide +kernel
theorem kc_162_134 : xe_code 162 134 = some (.iadd, []) := by decide +kernel
theorem kc_162_135 : xe_code 162 135 = some (.iload 4, []) := by decide +kernel
theorem kc_162_137 : xe_code 162 137 = some (.iconst 1, []) := by decide +kernel
theorem kc_162_138 : xe_code 162 138 = some (.iadd, []) := by decide +kernel
theorem kc_162_139 : xe_code 162 139 = some (.invokevirtual 49, [162, 3, 735, 6]) := by decide +kernel
theorem kc_162_142 : xe_code 162 142 = some (.invokestatic 37, [6, 2, 723, 0]) := by decide +kernel
theorem kc_162_145 : xe_code 162 145 = some (.istore 12, []) := by decide +kernel
theorem kc_162_147 : xe_code 162 147 = some (.iload 5, []) := by decide +kernel
theorem kc_162_149 : xe_code 162 149 = some (.bipush (-9), []) := by decide +kernel
theorem kc_162_151 : xe_code 162 151 = some (.if_icmp .ne 16, [167]) := by decide +kernel
theorem kc_162_154 : xe_code 162 154 = some (.aload_n 0, []) := by decide +kernel
theorem kc_162_155 : xe_code 162 155 = some (.getfield 15, [6, 1, 269]) := by decide +kernel
theorem kc_162_158 : xe_code 162 158 = some (.iload 7, []) := by decide +kernel
theorem kc_162_160 : xe_code 162 160 = some (.iaload, []) := by decide +kernel
theorem kc_162_161 : xe_code 162 161 = some (.iload 12, []) := by decide +kernel
theorem kc_162_163 : xe_code 162 163 = some (.iadd, []) := by decide +kernel
theorem kc_162_164 : xe_code 162 164 = some (.goto 18, [182]) := by decide +kernel
theorem kc_162_167 : xe_code 162 167 = some (.iload 5, []) := by decide +kernel
theorem kc_162_169 : xe_code 162 169 = some (.aload_n 0, []) := by decide +kernel
theorem kc_162_170 : xe_code 162 170 = some (.getfield 15, [6, 1, 269]) := by decide +kernel
theorem kc_162_173 : xe_code 162 173 = some (.iload 7, []) := by decide +kernel
theorem kc_162_175 : xe_code 162 175 = some (.iaload, []) := by decide +kernel
theorem kc_162_176 : xe_code 162 176 = some (.iload 12, []) := by decide +kernel
theorem kc_162_178 : xe_code 162 178 = some (.iadd, []) := by decide +kernel
theorem kc_162_179 : xe_code 162 179 = some (.invokestatic 53, [7, 2, 739, 0]) := by decide +kernel
theorem kc_162_182 : xe_code 162 182 = some (.istore 5, []) := by decide +kernel
theorem kc_162_184 : xe_code 162 184 = some (.iload 6, []) := by decide +kernel
theorem kc_162_186 : xe_code 162 186 = some (.iconst 3, []) := by decide +kernel
theorem kc_162_187 : xe_code 162 187 = some (.imul, []) := by decide +kernel
theorem kc_162_188 : xe_code 162 188 = some (.istore 6, []) := by decide +kernel
theorem kc_162_190 : xe_code 162 190 = some (.iinc 7 1, []) := by decide +kernel
theorem kc_162_193 : xe_code 162 193 = some (.goto (-137), [56]) := by decide +kernel
theorem kc_162_196 : xe_code 162 196 = some (.aload_n 0, []) := by decide +kernel
theorem kc_162_197 : xe_code 162 197 = some (.getfield 19, [6, 2, 270]) := by decide +kernel
theorem kc_162_200 : xe_code 162 200 = some (.iload_n 3, []) := by decide +kernel
theorem kc_162_201 : xe_code 162 201 = some (.iload 5, []) := by decide +kernel
theorem kc_162_203 : xe_code 162 203 = some (.bipush (-9), []) := by decide +kernel
theorem kc_162_205 : xe_code 162 205 = some (.if_icmp .ne 7, [212]) := by decide +kernel
theorem kc_162_208 : xe_code 162 208 = some (.iconst 0, []) := by decide +kernel
theorem kc_162_209 : xe_code 162 209 = some (.goto 5, [214]) := by decide +kernel
theorem kc_162_212 : xe_code 162 212 = some (.iload 5, []) := by decide +kernel
theorem kc_162_214 : xe_code 162 214 = some (.iastore, []) := by decide +kernel
theorem kc_162_215 : xe_code 162 215 = some (.aload_n 0, []) := by decide +kernel
theorem kc_162_216 : xe_code 162 216 = some (.getfield 19, [6, 2, 270]) := by decide +kernel
theorem kc_162_219 : xe_code 162 219 = some (.iload_n 3, []) := by decide +kernel
theorem kc_162_220 : xe_code 162 220 = some (.iaload, []) := by decide +kernel
theorem kc_162_221 : xe_code 162 221 = some (.ireturn, []) := by decide +kernel
theorem kc_163_0 : xe_code 163 0 = some (.iload_n 1, []) := by decide +kernel
theorem kc_163_1 : xe_code 163 1 = some (.invokestatic 68, [89, 1, 404, 0]) := by decide +kernel
theorem kc_163_4 : xe_code 163 4 = some (.ifCond .ne 9, [13]) := by decide +kernel
theorem kc_163_7 : xe_code 163 7 = some (.aload_n 0, []) := by decide +kernel
theorem kc_163_8 : xe_code 163 8 = some (.iconst (-1), []) := by decide +kernel
theorem kc_163_9 : xe_code 163 9 = some (.invokevirtual 72, [90, 1, 407, 0]) := by decide +kernel
theorem kc_163_12 : xe_code 163 12 = some (.ireturn, []) := by decide +kernel
theorem kc_163_13 : xe_code 163 13 = some (.iload_n 2, []) := by decide +kernel
theorem kc_163_14 : xe_code 163 14 = some (.ifCond .eq 15, [29]) := by decide +kernel
theorem kc_163_17 : xe_code 163 17 = some (.iload_n 2, []) := by decide +kernel
theorem kc_163_18 : xe_code 163 18 = some (.iconst 1, []) := by decide +kernel
theorem kc_163_19 : xe_code 163 19 = some (.if_icmp .eq 10, [29]) := by decide +kernel
theorem kc_163_22 : xe_code 163 22 = some (.aload_n 0, []) := by decide +kernel
theorem kc_163_23 : xe_code 163 23 = some (.bipush (-2), []) := by decide +kernel
theorem kc_163_25 : xe_code 163 25 = some (.invokevirtual 72, [90, 1, 407, 0]) := by decide +kernel
theorem kc_163_28 : xe_code 163 28 = some (.ireturn, []) := by decide +kernel
theorem kc_163_29 : xe_code 163 29 = some (.aload_n 0, []) := by decide +kernel
theorem kc_163_30 : xe_code 163 30 = some (.iload_n 1, []) := by decide +kernel
theorem kc_163_31 : xe_code 163 31 = some (.iload 4, []) := by decide +kernel
theorem kc_163_33 : xe_code 163 33 = some (.iload 5, []) := by decide +kernel
theorem kc_163_35 : xe_code 163 35 = some (.invokevirtual 239, [164, 3, 746, 0]) := by decide +kernel
theorem kc_163_38 : xe_code 163 38 = some (.ifCond .eq 10, [48]) := by decide +kernel
theorem kc_163_41 : xe_code 163 41 = some (.aload_n 0, []) := by decide +kernel
theorem kc_163_42 : xe_code 163 42 = some (.bipush (-3), []) := by decide +kernel
theorem kc_163_44 : xe_code 163 44 = some (.invokevirtual 72, [90, 1, 407, 0]) := by decide +kernel
theorem kc_163_47 : xe_code 163 47 = some (.ireturn, []) := by decide +kernel
theorem kc_163_48 : xe_code 163 48 = some (.iload_n 3, []) := by decide +kernel
theorem kc_163_49 : xe_code 163 49 = some (.ifCond .lt 19, [68]) := by decide +kernel
theorem kc_163_52 : xe_code 163 52 = some (.iload 4, []) := by decide +kernel
theorem kc_163_54 : xe_code 163 54 = some (.aload_n 0, []) := by decide +kernel
theorem kc_163_55 : xe_code 163 55 = some (.getfield 148, [0, 9, 378]) := by decide +kernel
theorem kc_163_58 : xe_code 163 58 = some (.if_icmp .lt 10, [68]) := by decide +kernel
theorem kc_163_61 : xe_code 163 61 = some (.iload 5, []) := by decide +kernel
theorem kc_163_63 : xe_code 163 63 = some (.iload 4, []) := by decide +kernel
theorem kc_163_65 : xe_code 163 65 = some (.if_icmp .gt 10, [75]) := by decide +kernel
theorem kc_163_68 : xe_code 163 68 = some (.aload_n 0, []) := by decide +kernel
theorem kc_163_69 : xe_code 163 69 = some (.bipush (-4), []) := by decide +kernel
theorem kc_163_71 : xe_code 163 71 = some (.invokevirtual 72, [90, 1, 407, 0]) := by decide +kernel
theorem kc_163_74 : xe_code 163 74 = some (.ireturn, []) := by decide +kernel
theorem kc_163_75 : xe_code 163 75 = some (.iload_n 3, []) := by decide +kernel
theorem kc_163_76 : xe_code 163 76 = some (.getstatic 79, [2, 413]) := by decide +kernel
theorem kc_163_79 : xe_code 163 79 = some (.iconst 2, []) := by decide +kernel
theorem kc_163_80 : xe_code 163 80 = some (.iaload, []) := by decide +kernel
theorem kc_163_81 : xe_code 163 81 = some (.if_icmp .gt 20, [101]) := by decide +kernel
theorem kc_163_84 : xe_code 163 84 = some (.iload 5, []) := by decide +kernel
theorem kc_163_86 : xe_code 163 86 = some (.sipush 600, []) := by decide +kernel
theorem kc_163_89 : xe_code 163 89 = some (.if_icmp .gt 12, [101]) := by decide +kernel
theorem kc_163_92 : xe_code 163 92 = some (.aload_n 0, []) := by decide +kernel
theorem kc_163_93 : xe_code 163 93 = some (.getfield 243, [0, 8, 377]) := by decide +kernel
theorem kc_163_96 : xe_code 163 96 = some (.bipush 20, []) := by decide +kernel
theorem kc_163_98 : xe_code 163 98 = some (.if_icmp .lt 10, [108]) := by decide +kernel
theorem kc_163_101 : xe_code 163 101 = some (.aload_n 0, []) := by decide +kernel
theorem kc_163_102 : xe_code 163 102 = some (.bipush (-6), []) := by decide +kernel
theorem kc_163_104 : xe_code 163 104 = some (.invokevirtual 72, [90, 1, 407, 0]) := by decide +kernel
theorem kc_163_107 : xe_code 163 107 = some (.ireturn, []) := by decide +kernel
theorem kc_163_108 : xe_code 163 108 = some (.aload_n 0, []) := by decide +kernel
theorem kc_163_109 : xe_code 163 109 = some (.getfield 55, [0, 6, 375]) := by decide +kernel
theorem kc_163_112 : xe_code 163 112 = some (.aload_n 0, []) := by decide +kernel
theorem kc_163_113 : xe_code 163 113 = some (.getfield 243, [0, 8, 377]) := by decide +kernel
theorem kc_163_116 : xe_code 163 116 = some (.aaload, []) := by decide +kernel
theorem kc_163_117 : xe_code 163 117 = some (.astore 6, []) := by decide +kernel
theorem kc_163_119 : xe_code 163 119 = some (.aload 6, []) := by decide +kernel
theorem kc_163_121 : xe_code 163 121 = some (.iload_n 1, []) := by decide +kernel
theorem kc_163_122 : xe_code 163 122 = some (.putfield 246, [10, 0, 350]) := by decide +kernel
theorem kc_163_125 : xe_code 163 125 = some (.aload 6, []) := by decide +kernel
theorem kc_163_127 : xe_code 163 127 = some (.iload_n 2, []) := by decide +kernel
theorem kc_163_128 : xe_code 163 128 = some (.ifCond .ne 7, [135]) := by decide +kernel
theorem kc_163_131 : xe_code 163 131 = some (.iconst 4, []) := by decide +kernel
theorem kc_163_132 : xe_code 163 132 = some (.goto 4, [136]) := by decide +kernel
theorem kc_163_135 : xe_code 163 135 = some (.iconst 2, []) := by decide +kernel
theorem kc_163_136 : xe_code 163 136 = some (.putfield 247, [10, 1, 351]) := by decide +kernel
theorem kc_163_139 : xe_code 163 139 = some (.aload 6, []) := by decide +kernel
theorem kc_163_141 : xe_code 163 141 = some (.iload_n 2, []) := by decide +kernel
theorem kc_163_142 : xe_code 163 142 = some (.ifCond .ne 7, [149]) := by decide +kernel
theorem kc_163_145 : xe_code 163 145 = some (.iconst 1, []) := by decide +kernel
theorem kc_163_146 : xe_code 163 146 = some (.goto 4, [150]) := by decide +kernel
theorem kc_163_149 : xe_code 163 149 = some (.iload_n 3, []) := by decide +kernel
theorem kc_163_150 : xe_code 163 150 = some (.putfield 250, [10, 2, 352]) := by decide +kernel
theorem kc_163_153 : xe_code 163 153 = some (.aload 6, []) := by decide +kernel
theorem kc_163_155 : xe_code 163 155 = some (.iload 4, []) := by decide +kernel
theorem kc_163_157 : xe_code 163 157 = some (.putfield 253, [10, 3, 353]) := by decide +kernel
theorem kc_163_160 : xe_code 163 160 = some (.aload 6, []) := by decide +kernel
theorem kc_163_162 : xe_code 163 162 = some (.iload 5, []) := by decide +kernel
theorem kc_163_164 : xe_code 163 164 = some (.putfield 256, [10, 4, 354]) := by decide +kernel
theorem kc_163_167 : xe_code 163 167 = some (.aload_n 0, []) := by decide +kernel
theorem kc_163_168 : xe_code 163 168 = some (.dup, []) := by decide +kernel
theorem kc_163_169 : xe_code 163 169 = some (.getfield 243, [0, 8, 377]) := by decide +kernel
theorem kc_163_172 : xe_code 163 172 = some (.iconst 1, []) := by decide +kernel
theorem kc_163_173 : xe_code 163 173 = some (.iadd, []) := by decide +kernel
theorem kc_163_174 : xe_code 163 174 = some (.putfield 243, [0, 8, 377]) := by decide +kernel
theorem kc_163_177 : xe_code 163 177 = some (.aload_n 0, []) := by decide +kernel
theorem kc_163_178 : xe_code 163 178 = some (.getfield 243, [0, 8, 377]) := by decide +kernel
theorem kc_163_181 : xe_code 163 181 = some (.iconst 1, []) := by decide +kernel
theorem kc_163_182 : xe_code 163 182 = some (.isub, []) := by decide +kernel
theorem kc_163_183 : xe_code 163 183 = some (.ireturn, []) := by decide +kernel
theorem kc_164_0 : xe_code 164 0 = some (.iconst 0, []) := by decide +kernel
theorem kc_164_1 : xe_code 164 1 = some (.istore 4, []) := by decide +kernel
theorem kc_164_3 : xe_code 164 3 = some (.iload 4, []) := by decide +kernel
theorem kc_164_5 : xe_code 164 5 = some (.aload_n 0, []) := by decide +kernel
theorem kc_164_6 : xe_code 164 6 = some (.getfield 243, [0, 8, 377]) := by decide +kernel
theorem kc_164_9 : xe_code 164 9 = some (.if_icmp .ge 59, [68]) := by decide +kernel
theorem kc_164_12 : xe_code 164 12 = some (.iload 4, []) := by decide +kernel
theorem kc_164_14 : xe_code 164 14 = some (.bipush 20, []) := by decide +kernel
theorem kc_164_16 : xe_code 164 16 = some (.if_icmp .ge 52, [68]) := by decide +kernel
theorem kc_164_19 : xe_code 164 19 = some (.aload_n 0, []) := by decide +kernel
theorem kc_164_20 : xe_code 164 20 = some (.getfield 55, [0, 6, 375]) := by decide +kernel
theorem kc_164_23 : xe_code 164 23 = some (.iload 4, []) := by decide +kernel
theorem kc_164_25 : xe_code 164 25 = some (.aaload, []) := by decide +kernel
theorem kc_164_26 : xe_code 164 26 = some (.astore 5, []) := by decide +kernel
theorem kc_164_28 : xe_code 164 28 = some (.iload_n 2, []) := by decide +kernel
theorem kc_164_29 : xe_code 164 29 = some (.iload_n 3, []) := by decide +kernel
theorem kc_164_30 : xe_code 164 30 = some (.if_icmp .ge 32, [62]) := by decide +kernel
theorem kc_164_33 : xe_code 164 33 = some (.aload 5, []) := by decide +kernel
theorem kc_164_35 : xe_code 164 35 = some (.getfield 246, [10, 0, 350]) := by decide +kernel
theorem kc_164_38 : xe_code 164 38 = some (.iload_n 1, []) := by decide +kernel
theorem kc_164_39 : xe_code 164 39 = some (.if_icmp .ne 23, [62]) := by decide +kernel
theorem kc_164_42 : xe_code 164 42 = some (.iload_n 2, []) := by decide +kernel
theorem kc_164_43 : xe_code 164 43 = some (.aload 5, []) := by decide +kernel
theorem kc_164_45 : xe_code 164 45 = some (.getfield 256, [10, 4, 354]) := by decide +kernel
theorem kc_164_48 : xe_code 164 48 = some (.if_icmp .ge 14, [62]) := by decide +kernel
theorem kc_164_51 : xe_code 164 51 = some (.aload 5, []) := by decide +kernel
theorem kc_164_53 : xe_code 164 53 = some (.getfield 253, [10, 3, 353]) := by decide +kernel
theorem kc_164_56 : xe_code 164 56 = some (.iload_n 3, []) := by decide +kernel
theorem kc_164_57 : xe_code 164 57 = some (.if_icmp .ge 5, [62]) := by decide +kernel
theorem kc_164_60 : xe_code 164 60 = some (.iconst 1, []) := by decide +kernel
theorem kc_164_61 : xe_code 164 61 = some (.ireturn, []) := by decide +kernel
theorem kc_164_62 : xe_code 164 62 = some (.iinc 4 1, []) := by decide +kernel
theorem kc_164_65 : xe_code 164 65 = some (.goto (-62), [3]) := by decide +kernel
theorem kc_164_68 : xe_code 164 68 = some (.iconst 0, []) := by decide +kernel
theorem kc_164_69 : xe_code 164 69 = some (.ireturn, []) := by decide +kernel
theorem kc_165_0 : xe_code 165 0 = some (.iload_n 1, []) := by decide +kernel
theorem kc_165_1 : xe_code 165 1 = some (.ifCond .lt 17, [18]) := by decide +kernel
theorem kc_165_4 : xe_code 165 4 = some (.iload_n 1, []) := by decide +kernel
theorem kc_165_5 : xe_code 165 5 = some (.aload_n 0, []) := by decide +kernel
theorem kc_165_6 : xe_code 165 6 = some (.getfield 243, [0, 8, 377]) := by decide +kernel
theorem kc_165_9 : xe_code 165 9 = some (.if_icmp .ge 9, [18]) := by decide +kernel
theorem kc_165_12 : xe_code 165 12 = some (.iload_n 1, []) := by decide +kernel
theorem kc_165_13 : xe_code 165 13 = some (.bipush 20, []) := by decide +kernel
theorem kc_165_15 : xe_code 165 15 = some (.if_icmp .lt 9, [24]) := by decide +kernel
theorem kc_165_18 : xe_code 165 18 = some (.aload_n 0, []) := by decide +kernel
theorem kc_165_19 : xe_code 165 19 = some (.iconst (-1), []) := by decide +kernel
theorem kc_165_20 : xe_code 165 20 = some (.invokevirtual 72, [90, 1, 407, 0]) := by decide +kernel
theorem kc_165_23 : xe_code 165 23 = some (.ireturn, []) := by decide +kernel
theorem kc_165_24 : xe_code 165 24 = some (.iload_n 2, []) := by decide +kernel
theorem kc_165_25 : xe_code 165 25 = some (.ifCond .lt 8, [33]) := by decide +kernel
theorem kc_165_28 : xe_code 165 28 = some (.iload_n 2, []) := by decide +kernel
theorem kc_165_29 : xe_code 165 29 = some (.iconst 2, []) := by decide +kernel
theorem kc_165_30 : xe_code 165 30 = some (.if_icmp .le 10, [40]) := by decide +kernel
theorem kc_165_33 : xe_code 165 33 = some (.aload_n 0, []) := by decide +kernel
theorem kc_165_34 : xe_code 165 34 = some (.bipush (-2), []) := by decide +kernel
theorem kc_165_36 : xe_code 165 36 = some (.invokevirtual 72, [90, 1, 407, 0]) := by decide +kernel
theorem kc_165_39 : xe_code 165 39 = some (.ireturn, []) := by decide +kernel
theorem kc_165_40 : xe_code 165 40 = some (.aload_n 0, []) := by decide +kernel
theorem kc_165_41 : xe_code 165 41 = some (.getfield 55, [0, 6, 375]) := by decide +kernel
theorem kc_165_44 : xe_code 165 44 = some (.iload_n 1, []) := by decide +kernel
theorem kc_165_45 : xe_code 165 45 = some (.aaload, []) := by decide +kernel
theorem kc_165_46 : xe_code 165 46 = some (.astore_n 3, []) := by decide +kernel
theorem kc_165_47 : xe_code 165 47 = some (.aload_n 0, []) := by decide +kernel
theorem kc_165_48 : xe_code 165 48 = some (.getfield 148, [0, 9, 378]) := by decide +kernel
theorem kc_165_51 : xe_code 165 51 = some (.aload_n 3, []) := by decide +kernel
theorem kc_165_52 : xe_code 165 52 = some (.getfield 256, [10, 4, 354]) := by decide +kernel
theorem kc_165_55 : xe_code 165 55 = some (.if_icmp .ge 10, [65]) := by decide +kernel
theorem kc_165_58 : xe_code 165 58 = some (.aload_n 0, []) := by decide +kernel
theorem kc_165_59 : xe_code 165 59 = some (.bipush (-3), []) := by decide +kernel
theorem kc_165_61 : xe_code 165 61 = some (.invokevirtual 72, [90, 1, 407, 0]) := by decide +kernel
theorem kc_165_64 : xe_code 165 64 = some (.ireturn, []) := by decide +kernel
theorem kc_165_65 : xe_code 165 65 = some (.aload_n 0, []) := by decide +kernel
theorem kc_165_66 : xe_code 165 66 = some (.getfield 10, [0, 0, 369]) := by decide +kernel
theorem kc_165_69 : xe_code 165 69 = some (.aload_n 3, []) := by decide +kernel
theorem kc_165_70 : xe_code 165 70 = some (.getfield 246, [10, 0, 350]) := by decide +kernel
theorem kc_165_73 : xe_code 165 73 = some (.aload_n 3, []) := by decide +kernel
theorem kc_165_74 : xe_code 165 74 = some (.getfield 253, [10, 3, 353]) := by decide +kernel
theorem kc_165_77 : xe_code 165 77 = some (.aload_n 3, []) := by decide +kernel
theorem kc_165_78 : xe_code 165 78 = some (.getfield 256, [10, 4, 354]) := by decide +kernel
theorem kc_165_81 : xe_code 165 81 = some (.invokevirtual 259, [166, 3, 754, 4]) := by decide +kernel
theorem kc_165_84 : xe_code 165 84 = some (.istore 4, []) := by decide +kernel
theorem kc_165_86 : xe_code 165 86 = some (.aload_n 0, []) := by decide +kernel
theorem kc_165_87 : xe_code 165 87 = some (.getfield 10, [0, 0, 369]) := by decide +kernel
theorem kc_165_90 : xe_code 165 90 = some (.aload_n 3, []) := by decide +kernel
theorem kc_165_91 : xe_code 165 91 = some (.getfield 246, [10, 0, 350]) := by decide +kernel
theorem kc_165_94 : xe_code 165 94 = some (.aload_n 3, []) := by decide +kernel
theorem kc_165_95 : xe_code 165 95 = some (.getfield 253, [10, 3, 353]) := by decide +kernel
theorem kc_165_98 : xe_code 165 98 = some (.aload_n 3, []) := by decide +kernel
theorem kc_165_99 : xe_code 165 99 = some (.getfield 256, [10, 4, 354]) := by decide +kernel
theorem kc_165_102 : xe_code 165 102 = some (.aload_n 3, []) := by decide +kernel
theorem kc_165_103 : xe_code 165 103 = some (.getfield 253, [10, 3, 353]) := by decide +kernel
theorem kc_165_106 : xe_code 165 106 = some (.isub, []) := by decide +kernel
theorem kc_165_107 : xe_code 165 107 = some (.isub, []) := by decide +kernel
theorem kc_165_108 : xe_code 165 108 = some (.aload_n 3, []) := by decide +kernel
theorem kc_165_109 : xe_code 165 109 = some (.getfield 253, [10, 3, 353]) := by decide +kernel
theorem kc_165_112 : xe_code 165 112 = some (.invokevirtual 259, [166, 3, 754, 4]) := by decide +kernel
theorem kc_165_115 : xe_code 165 115 = some (.istore 5, []) := by decide +kernel
theorem kc_165_117 : xe_code 165 117 = some (.iload_n 2, []) := by decide +kernel
theorem kc_165_118 : xe_code 165 118 = some (.iconst 2, []) := by decide +kernel
theorem kc_165_119 : xe_code 165 119 = some (.if_icmp .ne 16, [135]) := by decide +kernel
theorem kc_165_122 : xe_code 165 122 = some (.iload 4, []) := by decide +kernel
theorem kc_165_124 : xe_code 165 124 = some (.iload 5, []) := by decide +kernel
theorem kc_165_126 : xe_code 165 126 = some (.if_icmp .ge 7, [133]) := by decide +kernel
theorem kc_165_129 : xe_code 165 129 = some (.iconst 1, []) := by decide +kernel
theorem kc_165_130 : xe_code 165 130 = some (.goto 4, [134]) := by decide +kernel
theorem kc_165_133 : xe_code 165 133 = some (.iconst 0, []) := by decide +kernel
theorem kc_165_134 : xe_code 165 134 = some (.ireturn, []) := by decide +kernel
theorem kc_165_135 : xe_code 165 135 = some (.iload_n 2, []) := by decide +kernel
theorem kc_165_136 : xe_code 165 136 = some (.ifCond .ne 8, [144]) := by decide +kernel
theorem kc_165_139 : xe_code 165 139 = some (.iload 4, []) := by decide +kernel
theorem kc_165_141 : xe_code 165 141 = some (.goto 5, [146]) := by decide +kernel
theorem kc_165_144 : xe_code 165 144 = some (.iload 5, []) := by decide +kernel
theorem kc_165_146 : xe_code 165 146 = some (.ireturn, []) := by decide +kernel
theorem kc_166_0 : xe_code 166 0 = some (.iload_n 2, []) := by decide +kernel
theorem kc_166_1 : xe_code 166 1 = some (.ifCond .ge 7, [8]) := by decide +kernel
theorem kc_166_4 : xe_code 166 4 = some (.iconst 0, []) := by decide +kernel
theorem kc_166_5 : xe_code 166 5 = some (.goto 4, [9]) := by decide +kernel
theorem kc_166_8 : xe_code 166 8 = some (.iload_n 2, []) := by decide +kernel
theorem kc_166_9 : xe_code 166 9 = some (.istore 4, []) := by decide +kernel
theorem kc_166_11 : xe_code 166 11 = some (.iload_n 3, []) := by decide +kernel
theorem kc_166_12 : xe_code 166 12 = some (.sipush 600, []) := by decide +kernel
theorem kc_166_15 : xe_code 166 15 = some (.if_icmp .le 9, [24]) := by decide +kernel
theorem kc_166_18 : xe_code 166 18 = some (.sipush 600, []) := by decide +kernel
theorem kc_166_21 : xe_code 166 21 = some (.goto 4, [25]) := by decide +kernel
theorem kc_166_24 : xe_code 166 24 = some (.iload_n 3, []) := by decide +kernel
theorem kc_166_25 : xe_code 166 25 = some (.istore 5, []) := by decide +kernel
theorem kc_166_27 : xe_code 166 27 = some (.lconst 0, []) := by decide +kernel
theorem kc_166_28 : xe_code 166 28 = some (.lstore 6, []) := by decide +kernel
theorem kc_166_30 : xe_code 166 30 = some (.lconst 0, []) := by decide +kernel
theorem kc_166_31 : xe_code 166 31 = some (.lstore 8, []) := by decide +kernel
theorem kc_166_33 : xe_code 166 33 = some (.iconst 0, []) := by decide +kernel
theorem kc_166_34 : xe_code 166 34 = some (.istore 10, []) := by decide +kernel
theorem kc_166_36 : xe_code 166 36 = some (.iload 10, []) := by decide +kernel
theorem kc_166_38 : xe_code 166 38 = some (.bipush 12, []) := by decide +kernel
theorem kc_166_40 : xe_code 166 40 = some (.if_icmp .ge 65, [105]) := by decide +kernel
theorem kc_166_43 : xe_code 166 43 = some (.aload_n 0, []) := by decide +kernel
theorem kc_166_44 : xe_code 166 44 = some (.getfield 19, [4, 1, 172]) := by decide +kernel
theorem kc_166_47 : xe_code 166 47 = some (.iload 10, []) := by decide +kernel
theorem kc_166_49 : xe_code 166 49 = some (.aaload, []) := by decide +kernel
theorem kc_166_50 : xe_code 166 50 = some (.getfield 69, [11, 0, 131]) := by decide +kernel
theorem kc_166_53 : xe_code 166 53 = some (.iload_n 1, []) := by decide +kernel
theorem kc_166_54 : xe_code 166 54 = some (.if_icmp .ne 45, [99]) := by decide +kernel
theorem kc_166_57 : xe_code 166 57 = some (.iload 4, []) := by decide +kernel
theorem kc_166_59 : xe_code 166 59 = some (.istore 11, []) := by decide +kernel
theorem kc_166_61 : xe_code 166 61 = some (.iload 11, []) := by decide +kernel
theorem kc_166_63 : xe_code 166 63 = some (.iload 5, []) := by decide +kernel
theorem kc_166_65 : xe_code 166 65 = some (.if_icmp .ge 34, [99]) := by decide +kernel
theorem kc_166_68 : xe_code 166 68 = some (.lload 6, []) := by decide +kernel
theorem kc_166_70 : xe_code 166 70 = some (.aload_n 0, []) := by decide +kernel
theorem kc_166_71 : xe_code 166 71 = some (.getfield 19, [4, 1, 172]) := by decide +kernel
theorem kc_166_74 : xe_code 166 74 = some (.iload 10, []) := by decide +kernel
theorem kc_166_76 : xe_code 166 76 = some (.aaload, []) := by decide +kernel
theorem kc_166_77 : xe_code 166 77 = some (.getfield 122, [11, 4, 140]) := by decide +kernel
theorem kc_166_80 : xe_code 166 80 = some (.iload 11, []) := by decide +kernel
theorem kc_166_82 : xe_code 166 82 = some (.iaload, []) := by decide +kernel
theorem kc_166_83 : xe_code 166 83 = some (.i2l, []) := by decide +kernel
theorem kc_166_84 : xe_code 166 84 = some (.ladd, []) := by decide +kernel
theorem kc_166_85 : xe_code 166 85 = some (.lstore 6, []) := by decide +kernel
theorem kc_166_87 : xe_code 166 87 = some (.lload 8, []) := by decide +kernel
theorem kc_166_89 : xe_code 166 89 = some (.lconst 1, []) := by decide +kernel
theorem kc_166_90 : xe_code 166 90 = some (.ladd, []) := by decide +kernel
theorem kc_166_91 : xe_code 166 91 = some (.lstore 8, []) := by decide +kernel
theorem kc_166_93 : xe_code 166 93 = some (.iinc 11 1, []) := by decide +kernel
theorem kc_166_96 : xe_code 166 96 = some (.goto (-35), [61]) := by decide +kernel
theorem kc_166_99 : xe_code 166 99 = some (.iinc 10 1, []) := by decide +kernel
theorem kc_166_102 : xe_code 166 102 = some (.goto (-66), [36]) := by decide +kernel
theorem kc_166_105 : xe_code 166 105 = some (.lload 8, []) := by decide +kernel
theorem kc_166_107 : xe_code 166 107 = some (.lconst 0, []) := by decide +kernel
theorem kc_166_108 : xe_code 166 108 = some (.lcmp, []) := by decide +kernel
theorem kc_166_109 : xe_code 166 109 = some (.ifCond .ne 7, [116]) := by decide +kernel
theorem kc_166_112 : xe_code 166 112 = some (.iconst 0, []) := by decide +kernel
theorem kc_166_113 : xe_code 166 113 = some (.goto 9, [122]) := by decide +kernel
theorem kc_166_116 : xe_code 166 116 = some (.lload 6, []) := by decide +kernel
theorem kc_166_118 : xe_code 166 118 = some (.lload 8, []) := by decide +kernel
theorem kc_166_120 : xe_code 166 120 = some (.ldiv, []) := by decide +kernel
theorem kc_166_121 : xe_code 166 121 = some (.l2i, []) := by decide +kernel
theorem kc_166_122 : xe_code 166 122 = some (.ireturn, []) := by decide +kernel
theorem kc_167_0 : xe_code 167 0 = some (.iload_n 1, []) := by decide +kernel
theorem kc_167_1 : xe_code 167 1 = some (.ifCond .lt 28, [29]) := by decide +kernel
theorem kc_167_4 : xe_code 167 4 = some (.iload_n 1, []) := by decide +kernel
theorem kc_167_5 : xe_code 167 5 = some (.bipush 24, []) := by decide +kernel
theorem kc_167_7 : xe_code 167 7 = some (.if_icmp .ge 22, [29]) := by decide +kernel
theorem kc_167_10 : xe_code 167 10 = some (.iload_n 2, []) := by decide +kernel
theorem kc_167_11 : xe_code 167 11 = some (.ifCond .lt 18, [29]) := by decide +kernel
theorem kc_167_14 : xe_code 167 14 = some (.iload_n 2, []) := by decide +kernel
theorem kc_167_15 : xe_code 167 15 = some (.iconst 4, []) := by decide +kernel
theorem kc_167_16 : xe_code 167 16 = some (.if_icmp .ge 13, [29]) := by decide +kernel
theorem kc_167_19 : xe_code 167 19 = some (.iload_n 3, []) := by decide +kernel
theorem kc_167_20 : xe_code 167 20 = some (.ifCond .lt 9, [29]) := by decide +kernel
theorem kc_167_23 : xe_code 167 23 = some (.iload_n 3, []) := by decide +kernel
theorem kc_167_24 : xe_code 167 24 = some (.bipush 6, []) := by decide +kernel
theorem kc_167_26 : xe_code 167 26 = some (.if_icmp .lt 9, [35]) := by decide +kernel
theorem kc_167_29 : xe_code 167 29 = some (.aload_n 0, []) := by decide +kernel
theorem kc_167_30 : xe_code 167 30 = some (.iconst (-1), []) := by decide +kernel
theorem kc_167_31 : xe_code 167 31 = some (.invokevirtual 72, [90, 1, 407, 0]) := by decide +kernel
theorem kc_167_34 : xe_code 167 34 = some (.ireturn, []) := by decide +kernel
theorem kc_167_35 : xe_code 167 35 = some (.iload 4, []) := by decide +kernel
theorem kc_167_37 : xe_code 167 37 = some (.ifCond .lt 9, [46]) := by decide +kernel
theorem kc_167_40 : xe_code 167 40 = some (.iload 4, []) := by decide +kernel
theorem kc_167_42 : xe_code 167 42 = some (.iconst 2, []) := by decide +kernel
theorem kc_167_43 : xe_code 167 43 = some (.if_icmp .le 10, [53]) := by decide +kernel
theorem kc_167_46 : xe_code 167 46 = some (.aload_n 0, []) := by decide +kernel
theorem kc_167_47 : xe_code 167 47 = some (.bipush (-2), []) := by decide +kernel
theorem kc_167_49 : xe_code 167 49 = some (.invokevirtual 72, [90, 1, 407, 0]) := by decide +kernel
theorem kc_167_52 : xe_code 167 52 = some (.ireturn, []) := by decide +kernel
theorem kc_167_53 : xe_code 167 53 = some (.aload_n 0, []) := by decide +kernel
theorem kc_167_54 : xe_code 167 54 = some (.getfield 42, [0, 4, 373]) := by decide +kernel
theorem kc_167_57 : xe_code 167 57 = some (.iload_n 1, []) := by decide +kernel
theorem kc_167_58 : xe_code 167 58 = some (.iload_n 2, []) := by decide +kernel
theorem kc_167_59 : xe_code 167 59 = some (.iload_n 3, []) := by decide +kernel
theorem kc_167_60 : xe_code 167 60 = some (.iload 4, []) := by decide +kernel
theorem kc_167_62 : xe_code 167 62 = some (.invokevirtual 262, [168, 4, 762, 2]) := by decide +kernel
theorem kc_167_65 : xe_code 167 65 = some (.ireturn, []) := by decide +kernel
theorem kc_168_0 : xe_code 168 0 = some (.iload_n 1, []) := by decide +kernel
theorem kc_168_1 : xe_code 168 1 = some (.ifCond .lt 9, [10]) := by decide +kernel
theorem kc_168_4 : xe_code 168 4 = some (.iload_n 1, []) := by decide +kernel
theorem kc_168_5 : xe_code 168 5 = some (.bipush 24, []) := by decide +kernel
theorem kc_168_7 : xe_code 168 7 = some (.if_icmp .lt 5, [12]) := by decide +kernel
theorem kc_168_10 : xe_code 168 10 = some (.iconst 2, []) := by decide +kernel
theorem kc_168_11 : xe_code 168 11 = some (.ireturn, []) := by decide +kernel
theorem kc_168_12 : xe_code 168 12 = some (.aload_n 0, []) := by decide +kernel
theorem kc_168_13 : xe_code 168 13 = some (.getfield 18, [2, 2, 295]) := by decide +kernel
theorem kc_168_16 : xe_code 168 16 = some (.iload_n 1, []) := by decide +kernel
theorem kc_168_17 : xe_code 168 17 = some (.iaload, []) := by decide +kernel
theorem kc_168_18 : xe_code 168 18 = some (.istore 5, []) := by decide +kernel
theorem kc_168_20 : xe_code 168 20 = some (.aload_n 0, []) := by decide +kernel
theorem kc_168_21 : xe_code 168 21 = some (.getfield 9, [2, 0, 293]) := by decide +kernel
theorem kc_168_24 : xe_code 168 24 = some (.iload_n 1, []) := by decide +kernel
theorem kc_168_25 : xe_code 168 25 = some (.iload_n 2, []) := by decide +kernel
theorem kc_168_26 : xe_code 168 26 = some (.iastore, []) := by decide +kernel
theorem kc_168_27 : xe_code 168 27 = some (.aload_n 0, []) := by decide +kernel
theorem kc_168_28 : xe_code 168 28 = some (.getfield 15, [2, 1, 294]) := by decide +kernel
theorem kc_168_31 : xe_code 168 31 = some (.iload_n 1, []) := by decide +kernel
theorem kc_168_32 : xe_code 168 32 = some (.iload_n 3, []) := by decide +kernel
theorem kc_168_33 : xe_code 168 33 = some (.iastore, []) := by decide +kernel
theorem kc_168_34 : xe_code 168 34 = some (.aload_n 0, []) := by decide +kernel
theorem kc_168_35 : xe_code 168 35 = some (.getfield 18, [2, 2, 295]) := by decide +kernel
theorem kc_168_38 : xe_code 168 38 = some (.iload_n 1, []) := by decide +kernel
theorem kc_168_39 : xe_code 168 39 = some (.iload 4, []) := by decide +kernel
theorem kc_168_41 : xe_code 168 41 = some (.iastore, []) := by decide +kernel
theorem kc_168_42 : xe_code 168 42 = some (.iload 5, []) := by decide +kernel
theorem kc_168_44 : xe_code 168 44 = some (.ireturn, []) := by decide +kernel
theorem kc_169_0 : xe_code 169 0 = some (.aload_n 0, []) := by decide +kernel
theorem kc_169_1 : xe_code 169 1 = some (.getfield 42, [0, 4, 373]) := by decide +kernel
theorem kc_169_4 : xe_code 169 4 = some (.invokevirtual 264, [170, 0, 770, 2]) := by decide +kernel
theorem kc_169_7 : xe_code 169 7 = some (.ireturn, []) := by decide +kernel
theorem kc_170_0 : xe_code 170 0 = some (.iconst 0, []) := by decide +kernel
theorem kc_170_1 : xe_code 170 1 = some (.istore_n 1, []) := by decide +kernel
theorem kc_170_2 : xe_code 170 2 = some (.iconst 0, []) := by decide +kernel
theorem kc_170_3 : xe_code 170 3 = some (.istore_n 2, []) := by decide +kernel
theorem kc_170_4 : xe_code 170 4 = some (.iload_n 2, []) := by decide +kernel
theorem kc_170_5 : xe_code 170 5 = some (.bipush 24, []) := by decide +kernel
theorem kc_170_7 : xe_code 170 7 = some (.if_icmp .ge 54, [61]) := by decide +kernel
theorem kc_170_10 : xe_code 170 10 = some (.iconst 0, []) := by decide +kernel
theorem kc_170_11 : xe_code 170 11 = some (.istore_n 3, []) := by decide +kernel
theorem kc_170_12 : xe_code 170 12 = some (.iload_n 3, []) := by decide +kernel
theorem kc_170_13 : xe_code 170 13 = some (.iload_n 2, []) := by decide +kernel
theorem kc_170_14 : xe_code 170 14 = some (.if_icmp .ge 41, [55]) := by decide +kernel
theorem kc_170_17 : xe_code 170 17 = some (.aload_n 0, []) := by decide +kernel
theorem kc_170_18 : xe_code 170 18 = some (.getfield 18, [2, 2, 295]) := by decide +kernel
theorem kc_170_21 : xe_code 170 21 = some (.iload_n 2, []) := by decide +kernel
theorem kc_170_22 : xe_code 170 22 = some (.iaload, []) := by decide +kernel
theorem kc_170_23 : xe_code 170 23 = some (.iconst 1, []) := by decide +kernel
theorem kc_170_24 : xe_code 170 24 = some (.if_icmp .ne 25, [49]) := by decide +kernel
theorem kc_170_27 : xe_code 170 27 = some (.aload_n 0, []) := by decide +kernel
theorem kc_170_28 : xe_code 170 28 = some (.getfield 18, [2, 2, 295]) := by decide +kernel
theorem kc_170_31 : xe_code 170 31 = some (.iload_n 3, []) := by decide +kernel
theorem kc_170_32 : xe_code 170 32 = some (.iaload, []) := by decide +kernel
theorem kc_170_33 : xe_code 170 33 = some (.iconst 1, []) := by decide +kernel
theorem kc_170_34 : xe_code 170 34 = some (.if_icmp .ne 15, [49]) := by decide +kernel
theorem kc_170_37 : xe_code 170 37 = some (.aload_n 0, []) := by decide +kernel
theorem kc_170_38 : xe_code 170 38 = some (.iload_n 2, []) := by decide +kernel
theorem kc_170_39 : xe_code 170 39 = some (.iload_n 3, []) := by decide +kernel
theorem kc_170_40 : xe_code 170 40 = some (.invokevirtual 30, [171, 2, 774, 2]) := by decide +kernel
theorem kc_170_43 : xe_code 170 43 = some (.ifCond .eq 6, [49]) := by decide +kernel
theorem kc_170_46 : xe_code 170 46 = some (.iinc 1 1, []) := by decide +kernel
theorem kc_170_49 : xe_code 170 49 = some (.iinc 3 1, []) := by decide +kernel
theorem kc_170_52 : xe_code 170 52 = some (.goto (-40), [12]) := by decide +kernel
theorem kc_170_55 : xe_code 170 55 = some (.iinc 2 1, []) := by decide +kernel
theorem kc_170_58 : xe_code 170 58 = some (.goto (-54), [4]) := by decide +kernel
theorem kc_170_61 : xe_code 170 61 = some (.iload_n 1, []) := by decide +kernel
theorem kc_170_62 : xe_code 170 62 = some (.ireturn, []) := by decide +kernel
theorem kc_171_0 : xe_code 171 0 = some (.aload_n 0, []) := by decide +kernel
theorem kc_171_1 : xe_code 171 1 = some (.getfield 9, [2, 0, 293]) := by decide +kernel
theorem kc_171_4 : xe_code 171 4 = some (.iload_n 1, []) := by decide +kernel
theorem kc_171_5 : xe_code 171 5 = some (.iaload, []) := by decide +kernel
theorem kc_171_6 : xe_code 171 6 = some (.aload_n 0, []) := by decide +kernel
theorem kc_171_7 : xe_code 171 7 = some (.getfield 9, [2, 0, 293]) := by decide +kernel
theorem kc_171_10 : xe_code 171 10 = some (.iload_n 2, []) := by decide +kernel
theorem kc_171_11 : xe_code 171 11 = some (.iaload, []) := by decide +kernel
theorem kc_171_12 : xe_code 171 12 = some (.isub, []) := by decide +kernel
theorem kc_171_13 : xe_code 171 13 = some (.invokestatic 47, [2, 1, 778, 0]) := by decide +kernel
theorem kc_171_16 : xe_code 171 16 = some (.istore_n 3, []) := by decide +kernel
theorem kc_171_17 : xe_code 171 17 = some (.aload_n 0, []) := by decide +kernel
theorem kc_171_18 : xe_code 171 18 = some (.getfield 15, [2, 1, 294]) := by decide +kernel
theorem kc_171_21 : xe_code 171 21 = some (.iload_n 1, []) := by decide +kernel
theorem kc_171_22 : xe_code 171 22 = some (.iaload, []) := by decide +kernel
theorem kc_171_23 : xe_code 171 23 = some (.aload_n 0, []) := by decide +kernel
theorem kc_171_24 : xe_code 171 24 = some (.getfield 15, [2, 1, 294]) := by decide +kernel
theorem kc_171_27 : xe_code 171 27 = some (.iload_n 2, []) := by decide +kernel
theorem kc_171_28 : xe_code 171 28 = some (.iaload, []) := by decide +kernel
theorem kc_171_29 : xe_code 171 29 = some (.isub, []) := by decide +kernel
theorem kc_171_30 : xe_code 171 30 = some (.invokestatic 47, [2, 1, 778, 0]) := by decide +kernel
theorem kc_171_33 : xe_code 171 33 = some (.istore 4, []) := by decide +kernel
theorem kc_171_35 : xe_code 171 35 = some (.iload_n 3, []) := by decide +kernel
theorem kc_171_36 : xe_code 171 36 = some (.iload 4, []) := by decide +kernel
theorem kc_171_38 : xe_code 171 38 = some (.iadd, []) := by decide +kernel
theorem kc_171_39 : xe_code 171 39 = some (.iconst 1, []) := by decide +kernel
theorem kc_171_40 : xe_code 171 40 = some (.if_icmp .ne 7, [47]) := by decide +kernel
theorem kc_171_43 : xe_code 171 43 = some (.iconst 1, []) := by decide +kernel
theorem kc_171_44 : xe_code 171 44 = some (.goto 4, [48]) := by decide +kernel
theorem kc_171_47 : xe_code 171 47 = some (.iconst 0, []) := by decide +kernel
theorem kc_171_48 : xe_code 171 48 = some (.ireturn, []) := by decide +kernel
theorem kc_172_0 : xe_code 172 0 = some (.iload_n 1, []) := by decide +kernel
theorem kc_172_1 : xe_code 172 1 = some (.ifCond .eq 15, [16]) := by decide +kernel
theorem kc_172_4 : xe_code 172 4 = some (.iload_n 1, []) := by decide +kernel
theorem kc_172_5 : xe_code 172 5 = some (.iconst 1, []) := by decide +kernel
theorem kc_172_6 : xe_code 172 6 = some (.if_icmp .eq 10, [16]) := by decide +kernel
theorem kc_172_9 : xe_code 172 9 = some (.aload_n 0, []) := by decide +kernel
theorem kc_172_10 : xe_code 172 10 = some (.bipush (-2), []) := by decide +kernel
theorem kc_172_12 : xe_code 172 12 = some (.invokevirtual 72, [90, 1, 407, 0]) := by decide +kernel
theorem kc_172_15 : xe_code 172 15 = some (.ireturn, []) := by decide +kernel
theorem kc_172_16 : xe_code 172 16 = some (.aload_n 0, []) := by decide +kernel
theorem kc_172_17 : xe_code 172 17 = some (.getfield 42, [0, 4, 373]) := by decide +kernel
theorem kc_172_20 : xe_code 172 20 = some (.invokevirtual 267, [173, 0, 783, 2]) := by decide +kernel
theorem kc_172_23 : xe_code 172 23 = some (.bipush 16, []) := by decide +kernel
theorem kc_172_25 : xe_code 172 25 = some (.if_icmp .le 10, [35]) := by decide +kernel
theorem kc_172_28 : xe_code 172 28 = some (.aload_n 0, []) := by decide +kernel
theorem kc_172_29 : xe_code 172 29 = some (.bipush (-6), []) := by decide +kernel
theorem kc_172_31 : xe_code 172 31 = some (.invokevirtual 72, [90, 1, 407, 0]) := by decide +kernel
theorem kc_172_34 : xe_code 172 34 = some (.ireturn, []) := by decide +kernel
theorem kc_172_35 : xe_code 172 35 = some (.aload_n 0, []) := by decide +kernel
theorem kc_172_36 : xe_code 172 36 = some (.getfield 42, [0, 4, 373]) := by decide +kernel
theorem kc_172_39 : xe_code 172 39 = some (.iload_n 1, []) := by decide +kernel
theorem kc_172_40 : xe_code 172 40 = some (.ifCond .ne 13, [53]) := by decide +kernel
theorem kc_172_43 : xe_code 172 43 = some (.aload_n 0, []) := by decide +kernel
theorem kc_172_44 : xe_code 172 44 = some (.getfield 42, [0, 4, 373]) := by decide +kernel
theorem kc_172_47 : xe_code 172 47 = some (.invokevirtual 264, [170, 0, 770, 2]) := by decide +kernel
theorem kc_172_50 : xe_code 172 50 = some (.goto 4, [54]) := by decide +kernel
theorem kc_172_53 : xe_code 172 53 = some (.iconst 0, []) := by decide +kernel
theorem kc_172_54 : xe_code 172 54 = some (.invokevirtual 270, [174, 1, 787, 2]) := by decide +kernel
theorem kc_172_57 : xe_code 172 57 = some (.ireturn, []) := by decide +kernel
theorem kc_173_0 : xe_code 173 0 = some (.iconst 0, []) := by decide +kernel
theorem kc_173_1 : xe_code 173 1 = some (.istore_n 1, []) := by decide +kernel
theorem kc_173_2 : xe_code 173 2 = some (.iconst 0, []) := by decide +kernel
theorem kc_173_3 : xe_code 173 3 = some (.istore_n 2, []) := by decide +kernel
theorem kc_173_4 : xe_code 173 4 = some (.iload_n 2, []) := by decide +kernel
theorem kc_173_5 : xe_code 173 5 = some (.bipush 24, []) := by decide +kernel
theorem kc_173_7 : xe_code 173 7 = some (.if_icmp .ge 27, [34]) := by decide +kernel
theorem kc_173_10 : xe_code 173 10 = some (.iload_n 1, []) := by decide +kernel
theorem kc_173_11 : xe_code 173 11 = some (.aload_n 0, []) := by decide +kernel
theorem kc_173_12 : xe_code 173 12 = some (.getfield 18, [2, 2, 295]) := by decide +kernel
theorem kc_173_15 : xe_code 173 15 = some (.iload_n 2, []) := by decide +kernel
theorem kc_173_16 : xe_code 173 16 = some (.iaload, []) := by decide +kernel
theorem kc_173_17 : xe_code 173 17 = some (.iconst 2, []) := by decide +kernel
theorem kc_173_18 : xe_code 173 18 = some (.if_icmp .ne 7, [25]) := by decide +kernel
theorem kc_173_21 : xe_code 173 21 = some (.iconst 0, []) := by decide +kernel
theorem kc_173_22 : xe_code 173 22 = some (.goto 4, [26]) := by decide +kernel
theorem kc_173_25 : xe_code 173 25 = some (.iconst 1, []) := by decide +kernel
theorem kc_173_26 : xe_code 173 26 = some (.iadd, []) := by decide +kernel
theorem kc_173_27 : xe_code 173 27 = some (.istore_n 1, []) := by decide +kernel
theorem kc_173_28 : xe_code 173 28 = some (.iinc 2 1, []) := by decide +kernel
theorem kc_173_31 : xe_code 173 31 = some (.goto (-27), [4]) := by decide +kernel
theorem kc_173_34 : xe_code 173 34 = some (.iload_n 1, []) := by decide +kernel
theorem kc_173_35 : xe_code 173 35 = some (.ireturn, []) := by decide +kernel
theorem kc_174_0 : xe_code 174 0 = some (.iconst 0, []) := by decide +kernel
theorem kc_174_1 : xe_code 174 1 = some (.istore_n 2, []) := by decide +kernel
theorem kc_174_2 : xe_code 174 2 = some (.iconst 0, []) := by decide +kernel
theorem kc_174_3 : xe_code 174 3 = some (.istore_n 3, []) := by decide +kernel
theorem kc_174_4 : xe_code 174 4 = some (.iconst 0, []) := by decide +kernel
theorem kc_174_5 : xe_code 174 5 = some (.istore 4, []) := by decide +kernel
theorem kc_174_7 : xe_code 174 7 = some (.iload 4, []) := by decide +kernel
theorem kc_174_9 : xe_code 174 9 = some (.bipush 24, []) := by decide +kernel
theorem kc_174_11 : xe_code 174 11 = some (.if_icmp .ge 51, [62]) := by decide +kernel
theorem kc_174_14 : xe_code 174 14 = some (.aload_n 0, []) := by decide +kernel
theorem kc_174_15 : xe_code 174 15 = some (.getfield 18, [2, 2, 295]) := by decide +kernel
theorem kc_174_18 : xe_code 174 18 = some (.iload 4, []) := by decide +kernel
theorem kc_174_20 : xe_code 174 20 = some (.iaload, []) := by decide +kernel
theorem kc_174_21 : xe_code 174 21 = some (.iconst 2, []) := by decide +kernel
theorem kc_174_22 : xe_code 174 22 = some (.if_icmp .eq 34, [56]) := by decide +kernel
theorem kc_174_25 : xe_code 174 25 = some (.iload_n 2, []) := by decide +kernel
theorem kc_174_26 : xe_code 174 26 = some (.bipush 16, []) := by decide +kernel
theorem kc_174_28 : xe_code 174 28 = some (.if_icmp .ge 28, [56]) := by decide +kernel
theorem kc_174_31 : xe_code 174 31 = some (.aload_n 0, []) := by decide +kernel
theorem kc_174_32 : xe_code 174 32 = some (.getfield 21, [2, 3, 296]) := by decide +kernel
theorem kc_174_35 : xe_code 174 35 = some (.iload_n 2, []) := by decide +kernel
theorem kc_174_36 : xe_code 174 36 = some (.aload_n 0, []) := by decide +kernel
theorem kc_174_37 : xe_code 174 37 = some (.iload 4, []) := by decide +kernel
theorem kc_174_39 : xe_code 174 39 = some (.invokevirtual 34, [175, 1, 791, 2]) := by decide +kernel
theorem kc_174_42 : xe_code 174 42 = some (.iastore, []) := by decide +kernel
theorem kc_174_43 : xe_code 174 43 = some (.iinc 2 1, []) := by decide +kernel
theorem kc_174_46 : xe_code 174 46 = some (.iload_n 3, []) := by decide +kernel
theorem kc_174_47 : xe_code 174 47 = some (.aload_n 0, []) := by decide +kernel
theorem kc_174_48 : xe_code 174 48 = some (.getfield 18, [2, 2, 295]) := by decide +kernel
theorem kc_174_51 : xe_code 174 51 = some (.iload 4, []) := by decide +kernel
theorem kc_174_53 : xe_code 174 53 = some (.iaload, []) := by decide +kernel
theorem kc_174_54 : xe_code 174 54 = some (.iadd, []) := by decide +kernel
theorem kc_174_55 : xe_code 174 55 = some (.istore_n 3, []) := by decide +kernel
theorem kc_174_56 : xe_code 174 56 = some (.iinc 4 1, []) := by decide +kernel
theorem kc_174_59 : xe_code 174 59 = some (.goto (-52), [7]) := by decide +kernel
theorem kc_174_62 : xe_code 174 62 = some (.aload_n 0, []) := by decide +kernel
theorem kc_174_63 : xe_code 174 63 = some (.iconst 0, []) := by decide +kernel
theorem kc_174_64 : xe_code 174 64 = some (.iload_n 2, []) := by decide +kernel
theorem kc_174_65 : xe_code 174 65 = some (.iload_n 3, []) := by decide +kernel
theorem kc_174_66 : xe_code 174 66 = some (.iconst 0, []) := by decide +kernel
theorem kc_174_67 : xe_code 174 67 = some (.iload_n 1, []) := by decide +kernel
theorem kc_174_68 : xe_code 174 68 = some (.invokevirtual 38, [176, 5, 795, 2]) := by decide +kernel
theorem kc_174_71 : xe_code 174 71 = some (.ireturn, []) := by decide +kernel
theorem kc_175_0 : xe_code 175 0 = some (.iconst 0, []) := by decide +kernel
theorem kc_175_1 : xe_code 175 1 = some (.istore_n 2, []) := by decide +kernel
theorem kc_175_2 : xe_code 175 2 = some (.iconst 0, []) := by decide +kernel
theorem kc_175_3 : xe_code 175 3 = some (.istore_n 3, []) := by decide +kernel
theorem kc_175_4 : xe_code 175 4 = some (.iconst 0, []) := by decide +kernel
theorem kc_175_5 : xe_code 175 5 = some (.istore 4, []) := by decide +kernel
theorem kc_175_7 : xe_code 175 7 = some (.iload 4, []) := by decide +kernel
theorem kc_175_9 : xe_code 175 9 = some (.iload_n 1, []) := by decide +kernel
theorem kc_175_10 : xe_code 175 10 = some (.if_icmp .ge 46, [56]) := by decide +kernel
theorem kc_175_13 : xe_code 175 13 = some (.iload 4, []) := by decide +kernel
theorem kc_175_15 : xe_code 175 15 = some (.bipush 24, []) := by decide +kernel
theorem kc_175_17 : xe_code 175 17 = some (.if_icmp .ge 39, [56]) := by decide +kernel
theorem kc_175_20 : xe_code 175 20 = some (.aload_n 0, []) := by decide +kernel
theorem kc_175_21 : xe_code 175 21 = some (.getfield 18, [2, 2, 295]) := by decide +kernel
theorem kc_175_24 : xe_code 175 24 = some (.iload 4, []) := by decide +kernel
theorem kc_175_26 : xe_code 175 26 = some (.iaload, []) := by decide +kernel
theorem kc_175_27 : xe_code 175 27 = some (.iconst 2, []) := by decide +kernel
theorem kc_175_28 : xe_code 175 28 = some (.if_icmp .eq 22, [50]) := by decide +kernel
theorem kc_175_31 : xe_code 175 31 = some (.aload_n 0, []) := by decide +kernel
theorem kc_175_32 : xe_code 175 32 = some (.iload 4, []) := by decide +kernel
theorem kc_175_34 : xe_code 175 34 = some (.iload_n 1, []) := by decide +kernel
theorem kc_175_35 : xe_code 175 35 = some (.invokevirtual 30, [171, 2, 774, 2]) := by decide +kernel
theorem kc_175_38 : xe_code 175 38 = some (.ifCond .eq 9, [47]) := by decide +kernel
theorem kc_175_41 : xe_code 175 41 = some (.iload_n 2, []) := by decide +kernel
theorem kc_175_42 : xe_code 175 42 = some (.iconst 1, []) := by decide +kernel
theorem kc_175_43 : xe_code 175 43 = some (.iload_n 3, []) := by decide +kernel
theorem kc_175_44 : xe_code 175 44 = some (.ishl, []) := by decide +kernel
theorem kc_175_45 : xe_code 175 45 = some (.ior, []) := by decide +kernel
theorem kc_175_46 : xe_code 175 46 = some (.istore_n 2, []) := by decide +kernel
theorem kc_175_47 : xe_code 175 47 = some (.iinc 3 1, []) := by decide +kernel
theorem kc_175_50 : xe_code 175 50 = some (.iinc 4 1, []) := by decide +kernel
theorem kc_175_53 : xe_code 175 53 = some (.goto (-46), [7]) := by decide +kernel
theorem kc_175_56 : xe_code 175 56 = some (.iload_n 2, []) := by decide +kernel
theorem kc_175_57 : xe_code 175 57 = some (.ireturn, []) := by decide +kernel
theorem kc_176_0 : xe_code 176 0 = some (.iload_n 3, []) := by decide +kernel
theorem kc_176_1 : xe_code 176 1 = some (.ifCond .ne 14, [15]) := by decide +kernel
theorem kc_176_4 : xe_code 176 4 = some (.iload 5, []) := by decide +kernel
theorem kc_176_6 : xe_code 176 6 = some (.ifCond .gt 7, [13]) := by decide +kernel
theorem kc_176_9 : xe_code 176 9 = some (.iconst 1, []) := by decide +kernel
theorem kc_176_10 : xe_code 176 10 = some (.goto 4, [14]) := by decide +kernel
theorem kc_176_13 : xe_code 176 13 = some (.iconst 0, []) := by decide +kernel
theorem kc_176_14 : xe_code 176 14 = some (.ireturn, []) := by decide +kernel
theorem kc_176_15 : xe_code 176 15 = some (.iconst 0, []) := by decide +kernel
theorem kc_176_16 : xe_code 176 16 = some (.istore 6, []) := by decide +kernel
theorem kc_176_18 : xe_code 176 18 = some (.iload_n 1, []) := by decide +kernel
theorem kc_176_19 : xe_code 176 19 = some (.istore 7, []) := by decide +kernel
theorem kc_176_21 : xe_code 176 21 = some (.iload 7, []) := by decide +kernel
theorem kc_176_23 : xe_code 176 23 = some (.iload_n 2, []) := by decide +kernel
theorem kc_176_24 : xe_code 176 24 = some (.iload_n 3, []) := by decide +kernel
theorem kc_176_25 : xe_code 176 25 = some (.isub, []) := by decide +kernel
theorem kc_176_26 : xe_code 176 26 = some (.if_icmp .gt 60, [86]) := by decide +kernel
theorem kc_176_29 : xe_code 176 29 = some (.iload 7, []) := by decide +kernel
theorem kc_176_31 : xe_code 176 31 = some (.bipush 16, []) := by decide +kernel
theorem kc_176_33 : xe_code 176 33 = some (.if_icmp .ge 53, [86]) := by decide +kernel
theorem kc_176_36 : xe_code 176 36 = some (.aload_n 0, []) := by decide +kernel
theorem kc_176_37 : xe_code 176 37 = some (.getfield 21, [2, 3, 296]) := by decide +kernel
theorem kc_176_40 : xe_code 176 40 = some (.iload 7, []) := by decide +kernel
theorem kc_176_42 : xe_code 176 42 = some (.iaload, []) := by decide +kernel
theorem kc_176_43 : xe_code 176 43 = some (.iload 4, []) := by decide +kernel
theorem kc_176_45 : xe_code 176 45 = some (.iand, []) := by decide +kernel
theorem kc_176_46 : xe_code 176 46 = some (.invokestatic 42, [4, 1, 799, 0]) := by decide +kernel
theorem kc_176_49 : xe_code 176 49 = some (.istore 8, []) := by decide +kernel
theorem kc_176_51 : xe_code 176 51 = some (.iload 6, []) := by decide +kernel
theorem kc_176_53 : xe_code 176 53 = some (.aload_n 0, []) := by decide +kernel
theorem kc_176_54 : xe_code 176 54 = some (.iload 7, []) := by decide +kernel
theorem kc_176_56 : xe_code 176 56 = some (.iconst 1, []) := by decide +kernel
theorem kc_176_57 : xe_code 176 57 = some (.iadd, []) := by decide +kernel
theorem kc_176_58 : xe_code 176 58 = some (.iload_n 2, []) := by decide +kernel
theorem kc_176_59 : xe_code 176 59 = some (.iload_n 3, []) := by decide +kernel
theorem kc_176_60 : xe_code 176 60 = some (.iconst 1, []) := by decide +kernel
theorem kc_176_61 : xe_code 176 61 = some (.isub, []) := by decide +kernel
theorem kc_176_62 : xe_code 176 62 = some (.iload 4, []) := by decide +kernel
theorem kc_176_64 : xe_code 176 64 = some (.iconst 1, []) := by decide +kernel
theorem kc_176_65 : xe_code 176 65 = some (.iload 7, []) := by decide +kernel
theorem kc_176_67 : xe_code 176 67 = some (.ishl, []) := by decide +kernel
theorem kc_176_68 : xe_code 176 68 = some (.ior, []) := by decide +kernel
theorem kc_176_69 : xe_code 176 69 = some (.iload 5, []) := by decide +kernel
theorem kc_176_71 : xe_code 176 71 = some (.iload 8, []) := by decide +kernel
theorem kc_176_73 : xe_code 176 73 = some (.isub, []) := by decide +kernel
theorem kc_176_74 : xe_code 176 74 = some (.invokevirtual 38, [176, 5, 795, 2]) := by decide +kernel
theorem kc_176_77 : xe_code 176 77 = some (.iadd, []) := by decide +kernel
theorem kc_176_78 : xe_code 176 78 = some (.istore 6, []) := by decide +kernel
theorem kc_176_80 : xe_code 176 80 = some (.iinc 7 1, []) := by decide +kernel
theorem kc_176_83 : xe_code 176 83 = some (.goto (-62), [21]) := by decide +kernel
theorem kc_176_86 : xe_code 176 86 = some (.iload 6, []) := by decide +kernel
theorem kc_176_88 : xe_code 176 88 = some (.ireturn, []) := by decide +kernel
theorem kc_177_0 : xe_code 177 0 = some (.iload_n 2, []) := by decide +kernel
theorem kc_177_1 : xe_code 177 1 = some (.invokestatic 171, [117, 1, 529, 0]) := by decide +kernel
theorem kc_177_4 : xe_code 177 4 = some (.ifCond .eq 12, [16]) := by decide +kernel
theorem kc_177_7 : xe_code 177 7 = some (.iload_n 3, []) := by decide +kernel
theorem kc_177_8 : xe_code 177 8 = some (.ifCond .lt 8, [16]) := by decide +kernel
theorem kc_177_11 : xe_code 177 11 = some (.iload_n 3, []) := by decide +kernel
theorem kc_177_12 : xe_code 177 12 = some (.iconst 1, []) := by decide +kernel
theorem kc_177_13 : xe_code 177 13 = some (.if_icmp .le 10, [23]) := by decide +kernel
theorem kc_177_16 : xe_code 177 16 = some (.aload_n 0, []) := by decide +kernel
theorem kc_177_17 : xe_code 177 17 = some (.bipush (-2), []) := by decide +kernel
theorem kc_177_19 : xe_code 177 19 = some (.invokevirtual 72, [90, 1, 407, 0]) := by decide +kernel
theorem kc_177_22 : xe_code 177 22 = some (.ireturn, []) := by decide +kernel
theorem kc_177_23 : xe_code 177 23 = some (.iload_n 1, []) := by decide +kernel
theorem kc_177_24 : xe_code 177 24 = some (.aload_n 0, []) := by decide +kernel
theorem kc_177_25 : xe_code 177 25 = some (.getfield 148, [0, 9, 378]) := by decide +kernel
theorem kc_177_28 : xe_code 177 28 = some (.bipush 24, []) := by decide +kernel
theorem kc_177_30 : xe_code 177 30 = some (.idiv, []) := by decide +kernel
theorem kc_177_31 : xe_code 177 31 = some (.if_icmp .lt 8, [39]) := by decide +kernel
theorem kc_177_34 : xe_code 177 34 = some (.iload 4, []) := by decide +kernel
theorem kc_177_36 : xe_code 177 36 = some (.ifCond .ge 10, [46]) := by decide +kernel
theorem kc_177_39 : xe_code 177 39 = some (.aload_n 0, []) := by decide +kernel
theorem kc_177_40 : xe_code 177 40 = some (.bipush (-4), []) := by decide +kernel
theorem kc_177_42 : xe_code 177 42 = some (.invokevirtual 72, [90, 1, 407, 0]) := by decide +kernel
theorem kc_177_45 : xe_code 177 45 = some (.ireturn, []) := by decide +kernel
theorem kc_177_46 : xe_code 177 46 = some (.iload_n 1, []) := by decide +kernel
theorem kc_177_47 : xe_code 177 47 = some (.bipush 25, []) := by decide +kernel
theorem kc_177_49 : xe_code 177 49 = some (.if_icmp .gt 22, [71]) := by decide +kernel
theorem kc_177_52 : xe_code 177 52 = some (.iload 4, []) := by decide +kernel
theorem kc_177_54 : xe_code 177 54 = some (.bipush 99, []) := by decide +kernel
theorem kc_177_56 : xe_code 177 56 = some (.if_icmp .gt 15, [71]) := by decide +kernel
theorem kc_177_59 : xe_code 177 59 = some (.aload_n 0, []) := by decide +kernel
theorem kc_177_60 : xe_code 177 60 = some (.getfield 49, [0, 5, 374]) := by decide +kernel
theorem kc_177_63 : xe_code 177 63 = some (.getfield 273, [5, 8, 323]) := by decide +kernel
theorem kc_177_66 : xe_code 177 66 = some (.bipush 12, []) := by decide +kernel
theorem kc_177_68 : xe_code 177 68 = some (.if_icmp .lt 10, [78]) := by decide +kernel
theorem kc_177_71 : xe_code 177 71 = some (.aload_n 0, []) := by decide +kernel
theorem kc_177_72 : xe_code 177 72 = some (.bipush (-6), []) := by decide +kernel
theorem kc_177_74 : xe_code 177 74 = some (.invokevirtual 72, [90, 1, 407, 0]) := by decide +kernel
theorem kc_177_77 : xe_code 177 77 = some (.ireturn, []) := by decide +kernel
theorem kc_177_78 : xe_code 177 78 = some (.aload_n 0, []) := by decide +kernel
theorem kc_177_79 : xe_code 177 79 = some (.getfield 49, [0, 5, 374]) := by decide +kernel
theorem kc_177_82 : xe_code 177 82 = some (.iload_n 1, []) := by decide +kernel
theorem kc_177_83 : xe_code 177 83 = some (.iload_n 2, []) := by decide +kernel
theorem kc_177_84 : xe_code 177 84 = some (.iload_n 3, []) := by decide +kernel
theorem kc_177_85 : xe_code 177 85 = some (.iload 4, []) := by decide +kernel
theorem kc_177_87 : xe_code 177 87 = some (.invokevirtual 274, [178, 4, 804, 5]) := by decide +kernel
theorem kc_177_90 : xe_code 177 90 = some (.ireturn, []) := by decide +kernel
theorem kc_178_0 : xe_code 178 0 = some (.aload_n 0, []) := by decide +kernel
theorem kc_178_1 : xe_code 178 1 = some (.getfield 39, [5, 8, 322]) := by decide +kernel
theorem kc_178_4 : xe_code 178 4 = some (.bipush 12, []) := by decide +kernel
theorem kc_178_6 : xe_code 178 6 = some (.if_icmp .lt 6, [12]) := by decide +kernel
theorem kc_178_9 : xe_code 178 9 = some (.bipush (-9), []) := by decide +kernel
theorem kc_178_11 : xe_code 178 11 = some (.ireturn, []) := by decide +kernel
theorem kc_178_12 : xe_code 178 12 = some (.aload_n 0, []) := by decide +kernel
theorem kc_178_13 : xe_code 178 13 = some (.getfield 9, [5, 0, 313]) := by decide +kernel
theorem kc_178_16 : xe_code 178 16 = some (.aload_n 0, []) := by decide +kernel
theorem kc_178_17 : xe_code 178 17 = some (.getfield 39, [5, 8, 322]) := by decide +kernel
theorem kc_178_20 : xe_code 178 20 = some (.iload_n 1, []) := by decide +kernel
theorem kc_178_21 : xe_code 178 21 = some (.iastore, []) := by decide +kernel
theorem kc_178_22 : xe_code 178 22 = some (.aload_n 0, []) := by decide +kernel
theorem kc_178_23 : xe_code 178 23 = some (.getfield 15, [5, 1, 314]) := by decide +kernel
theorem kc_178_26 : xe_code 178 26 = some (.aload_n 0, []) := by decide +kernel
theorem kc_178_27 : xe_code 178 27 = some (.getfield 39, [5, 8, 322]) := by decide +kernel
theorem kc_178_30 : xe_code 178 30 = some (.iload_n 2, []) := by decide +kernel
theorem kc_178_31 : xe_code 178 31 = some (.iastore, []) := by decide +kernel
theorem kc_178_32 : xe_code 178 32 = some (.aload_n 0, []) := by decide +kernel
theorem kc_178_33 : xe_code 178 33 = some (.getfield 18, [5, 2, 315]) := by decide +kernel
theorem kc_178_36 : xe_code 178 36 = some (.aload_n 0, []) := by decide +kernel
theorem kc_178_37 : xe_code 178 37 = some (.getfield 39, [5, 8, 322]) := by decide +kernel
theorem kc_178_40 : xe_code 178 40 = some (.iload_n 3, []) := by decide +kernel
theorem kc_178_41 : xe_code 178 41 = some (.iastore, []) := by decide +kernel
theorem kc_178_42 : xe_code 178 42 = some (.aload_n 0, []) := by decide +kernel
theorem kc_178_43 : xe_code 178 43 = some (.getfield 21, [5, 3, 316]) := by decide +kernel
theorem kc_178_46 : xe_code 178 46 = some (.aload_n 0, []) := by decide +kernel
theorem kc_178_47 : xe_code 178 47 = some (.getfield 39, [5, 8, 322]) := by decide +kernel
theorem kc_178_50 : xe_code 178 50 = some (.iload 4, []) := by decide +kernel
theorem kc_178_52 : xe_code 178 52 = some (.iastore, []) := by decide +kernel
theorem kc_178_53 : xe_code 178 53 = some (.aload_n 0, []) := by decide +kernel
theorem kc_178_54 : xe_code 178 54 = some (.dup, []) := by decide +kernel
theorem kc_178_55 : xe_code 178 55 = some (.getfield 39, [5, 8, 322]) := by decide +kernel
theorem kc_178_58 : xe_code 178 58 = some (.iconst 1, []) := by decide +kernel
theorem kc_178_59 : xe_code 178 59 = some (.iadd, []) := by decide +kernel
theorem kc_178_60 : xe_code 178 60 = some (.putfield 39, [5, 8, 322]) := by decide +kernel
theorem kc_178_63 : xe_code 178 63 = some (.aload_n 0, []) := by decide +kernel
theorem kc_178_64 : xe_code 178 64 = some (.getfield 39, [5, 8, 322]) := by decide +kernel
theorem kc_178_67 : xe_code 178 67 = some (.iconst 1, []) := by decide +kernel
theorem kc_178_68 : xe_code 178 68 = some (.isub, []) := by decide +kernel
theorem kc_178_69 : xe_code 178 69 = some (.ireturn, []) := by decide +kernel
theorem kc_179_0 : xe_code 179 0 = some (.aload_n 0, []) := by decide +kernel
theorem kc_179_1 : xe_code 179 1 = some (.getfield 49, [0, 5, 374]) := by decide +kernel
theorem kc_179_4 : xe_code 179 4 = some (.getfield 275, [5, 7, 321]) := by decide +kernel
theorem kc_179_7 : xe_code 179 7 = some (.iload_n 1, []) := by decide +kernel
theorem kc_179_8 : xe_code 179 8 = some (.if_icmp .ne 5, [13]) := by decide +kernel
theorem kc_179_11 : xe_code 179 11 = some (.iconst 0, []) := by decide +kernel
theorem kc_179_12 : xe_code 179 12 = some (.ireturn, []) := by decide +kernel
theorem kc_179_13 : xe_code 179 13 = some (.aload_n 0, []) := by decide +kernel
theorem kc_179_14 : xe_code 179 14 = some (.getfield 49, [0, 5, 374]) := by decide +kernel
theorem kc_179_17 : xe_code 179 17 = some (.iload_n 1, []) := by decide +kernel
theorem kc_179_18 : xe_code 179 18 = some (.putfield 275, [5, 7, 321]) := by decide +kernel
theorem kc_179_21 : xe_code 179 21 = some (.iconst 1, []) := by decide +kernel
theorem kc_179_22 : xe_code 179 22 = some (.ireturn, []) := by decide +kernel
theorem kc_180_0 : xe_code 180 0 = some (.iload_n 2, []) := by decide +kernel
theorem kc_180_1 : xe_code 180 1 = some (.invokestatic 171, [117, 1, 529, 0]) := by decide +kernel
theorem kc_180_4 : xe_code 180 4 = some (.ifCond .ne 10, [14]) := by decide +kernel
theorem kc_180_7 : xe_code 180 7 = some (.aload_n 0, []) := by decide +kernel
theorem kc_180_8 : xe_code 180 8 = some (.bipush (-2), []) := by decide +kernel
theorem kc_180_10 : xe_code 180 10 = some (.invokevirtual 72, [90, 1, 407, 0]) := by decide +kernel
theorem kc_180_13 : xe_code 180 13 = some (.ireturn, []) := by decide +kernel
theorem kc_180_14 : xe_code 180 14 = some (.aload_n 0, []) := by decide +kernel
theorem kc_180_15 : xe_code 180 15 = some (.getfield 49, [0, 5, 374]) := by decide +kernel
theorem kc_180_18 : xe_code 180 18 = some (.iload_n 1, []) := by decide +kernel
theorem kc_180_19 : xe_code 180 19 = some (.iload_n 2, []) := by decide +kernel
theorem kc_180_20 : xe_code 180 20 = some (.iload_n 3, []) := by decide +kernel
theorem kc_180_21 : xe_code 180 21 = some (.aload_n 0, []) := by decide +kernel
theorem kc_180_22 : xe_code 180 22 = some (.getfield 148, [0, 9, 378]) := by decide +kernel
theorem kc_180_25 : xe_code 180 25 = some (.invokevirtual 278, [181, 4, 816, 5]) := by decide +kernel
theorem kc_180_28 : xe_code 180 28 = some (.iconst 1, []) := by decide +kernel
theorem kc_180_29 : xe_code 180 29 = some (.ireturn, []) := by decide +kernel
theorem kc_181_0 : xe_code 181 0 = some (.iload_n 2, []) := by decide +kernel
theorem kc_181_1 : xe_code 181 1 = some (.invokestatic 43, [117, 1, 820, 0]) := by decide +kernel
theorem kc_181_4 : xe_code 181 4 = some (.ifCond .ne 4, [8]) := by decide +kernel
theorem kc_181_7 : xe_code 181 7 = some (.return_, []) := by decide +kernel
theorem kc_181_8 : xe_code 181 8 = some (.iload_n 1, []) := by decide +kernel
theorem kc_181_9 : xe_code 181 9 = some (.ifCond .eq 10, [19]) := by decide +kernel
theorem kc_181_12 : xe_code 181 12 = some (.aload_n 0, []) := by decide +kernel
