theorem kc_129_117 : xe_code 129 117 = some (.istore 6, []) := by decide +kernel
theorem kc_129_119 : xe_code 129 119 = some (.aload_n 1, []) := by decide +kernel
theorem kc_129_120 : xe_code 129 120 = some (.getfield 148, [9, 0, 204]) := by decide +kernel
theorem kc_129_123 : xe_code 129 123 = some (.iload_n 2, []) := by decide +kernel
theorem kc_129_124 : xe_code 129 124 = some (.iload 6, []) := by decide +kernel
theorem kc_129_126 : xe_code 129 126 = some (.iastore, []) := by decide +kernel
theorem kc_129_127 : xe_code 129 127 = some (.return_, []) := by decide +kernel
theorem kc_130_0 : xe_code 130 0 = some (.aload_n 0, []) := by decide +kernel
theorem kc_130_1 : xe_code 130 1 = some (.getfield 9, [7, 0, 115]) := by decide +kernel
theorem kc_130_4 : xe_code 130 4 = some (.iconst 2, []) := by decide +kernel
theorem kc_130_5 : xe_code 130 5 = some (.iaload, []) := by decide +kernel
theorem kc_130_6 : xe_code 130 6 = some (.aload_n 0, []) := by decide +kernel
theorem kc_130_7 : xe_code 130 7 = some (.getfield 9, [7, 0, 115]) := by decide +kernel
theorem kc_130_10 : xe_code 130 10 = some (.iconst 4, []) := by decide +kernel
theorem kc_130_11 : xe_code 130 11 = some (.iaload, []) := by decide +kernel
theorem kc_130_12 : xe_code 130 12 = some (.iconst 1, []) := by decide +kernel
theorem kc_130_13 : xe_code 130 13 = some (.if_icmp .ne 12, [25]) := by decide +kernel
theorem kc_130_16 : xe_code 130 16 = some (.aload_n 0, []) := by decide +kernel
theorem kc_130_17 : xe_code 130 17 = some (.getfield 9, [7, 0, 115]) := by decide +kernel
theorem kc_130_20 : xe_code 130 20 = some (.iconst 3, []) := by decide +kernel
theorem kc_130_21 : xe_code 130 21 = some (.iaload, []) := by decide +kernel
theorem kc_130_22 : xe_code 130 22 = some (.goto 4, [26]) := by decide +kernel
theorem kc_130_25 : xe_code 130 25 = some (.iconst 0, []) := by decide +kernel
theorem kc_130_26 : xe_code 130 26 = some (.iadd, []) := by decide +kernel
theorem kc_130_27 : xe_code 130 27 = some (.ireturn, []) := by decide +kernel
theorem kc_131_0 : xe_code 131 0 = some (.bipush (-9), []) := by decide +kernel
theorem kc_131_2 : xe_code 131 2 = some (.istore 5, []) := by decide +kernel
theorem kc_131_4 : xe_code 131 4 = some (.iconst 0, []) := by decide +kernel
theorem kc_131_5 : xe_code 131 5 = some (.istore 6, []) := by decide +kernel
theorem kc_131_7 : xe_code 131 7 = some (.bipush 11, []) := by decide +kernel
theorem kc_131_9 : xe_code 131 9 = some (.istore 7, []) := by decide +kernel
theorem kc_131_11 : xe_code 131 11 = some (.iload 7, []) := by decide +kernel
theorem kc_131_13 : xe_code 131 13 = some (.ifCond .lt 44, [57]) := by decide +kernel
theorem kc_131_16 : xe_code 131 16 = some (.aload_n 0, []) := by decide +kernel
theorem kc_131_17 : xe_code 131 17 = some (.getfield 19, [4, 1, 172]) := by decide +kernel
theorem kc_131_20 : xe_code 131 20 = some (.iload 7, []) := by decide +kernel
theorem kc_131_22 : xe_code 131 22 = some (.aaload, []) := by decide +kernel
theorem kc_131_23 : xe_code 131 23 = some (.getfield 69, [11, 0, 131]) := by decide +kernel
theorem kc_131_26 : xe_code 131 26 = some (.iload_n 2, []) := by decide +kernel
theorem kc_131_27 : xe_code 131 27 = some (.if_icmp .ne 24, [51]) := by decide +kernel
theorem kc_131_30 : xe_code 131 30 = some (.iload 7, []) := by decide +kernel
theorem kc_131_32 : xe_code 131 32 = some (.istore 5, []) := by decide +kernel
theorem kc_131_34 : xe_code 131 34 = some (.iload 6, []) := by decide +kernel
theorem kc_131_36 : xe_code 131 36 = some (.aload_n 0, []) := by decide +kernel
theorem kc_131_37 : xe_code 131 37 = some (.getfield 19, [4, 1, 172]) := by decide +kernel
theorem kc_131_40 : xe_code 131 40 = some (.iload 7, []) := by decide +kernel
theorem kc_131_42 : xe_code 131 42 = some (.aaload, []) := by decide +kernel
theorem kc_131_43 : xe_code 131 43 = some (.iload 4, []) := by decide +kernel
theorem kc_131_45 : xe_code 131 45 = some (.invokevirtual 100, [110, 1, 495, 11]) := by decide +kernel
theorem kc_131_48 : xe_code 131 48 = some (.iadd, []) := by decide +kernel
theorem kc_131_49 : xe_code 131 49 = some (.istore 6, []) := by decide +kernel
theorem kc_131_51 : xe_code 131 51 = some (.iinc 7 (-1), []) := by decide +kernel
theorem kc_131_54 : xe_code 131 54 = some (.goto (-43), [11]) := by decide +kernel
theorem kc_131_57 : xe_code 131 57 = some (.iload_n 3, []) := by decide +kernel
theorem kc_131_58 : xe_code 131 58 = some (.istore 7, []) := by decide +kernel
theorem kc_131_60 : xe_code 131 60 = some (.iconst 0, []) := by decide +kernel
theorem kc_131_61 : xe_code 131 61 = some (.istore 8, []) := by decide +kernel
theorem kc_131_63 : xe_code 131 63 = some (.iload 8, []) := by decide +kernel
theorem kc_131_65 : xe_code 131 65 = some (.bipush 12, []) := by decide +kernel
theorem kc_131_67 : xe_code 131 67 = some (.if_icmp .ge 62, [129]) := by decide +kernel
theorem kc_131_70 : xe_code 131 70 = some (.iload 6, []) := by decide +kernel
theorem kc_131_72 : xe_code 131 72 = some (.ifCond .le 57, [129]) := by decide +kernel
theorem kc_131_75 : xe_code 131 75 = some (.aload_n 0, []) := by decide +kernel
theorem kc_131_76 : xe_code 131 76 = some (.getfield 19, [4, 1, 172]) := by decide +kernel
theorem kc_131_79 : xe_code 131 79 = some (.iload 8, []) := by decide +kernel
theorem kc_131_81 : xe_code 131 81 = some (.aaload, []) := by decide +kernel
theorem kc_131_82 : xe_code 131 82 = some (.getfield 69, [11, 0, 131]) := by decide +kernel
theorem kc_131_85 : xe_code 131 85 = some (.iload_n 2, []) := by decide +kernel
theorem kc_131_86 : xe_code 131 86 = some (.if_icmp .ne 37, [123]) := by decide +kernel
theorem kc_131_89 : xe_code 131 89 = some (.iload_n 3, []) := by decide +kernel
theorem kc_131_90 : xe_code 131 90 = some (.aload_n 0, []) := by decide +kernel
theorem kc_131_91 : xe_code 131 91 = some (.getfield 19, [4, 1, 172]) := by decide +kernel
theorem kc_131_94 : xe_code 131 94 = some (.iload 8, []) := by decide +kernel
theorem kc_131_96 : xe_code 131 96 = some (.aaload, []) := by decide +kernel
theorem kc_131_97 : xe_code 131 97 = some (.iload 4, []) := by decide +kernel
theorem kc_131_99 : xe_code 131 99 = some (.invokevirtual 100, [110, 1, 495, 11]) := by decide +kernel
theorem kc_131_102 : xe_code 131 102 = some (.imul, []) := by decide +kernel
theorem kc_131_103 : xe_code 131 103 = some (.iload 6, []) := by decide +kernel
theorem kc_131_105 : xe_code 131 105 = some (.idiv, []) := by decide +kernel
theorem kc_131_106 : xe_code 131 106 = some (.istore 9, []) := by decide +kernel
theorem kc_131_108 : xe_code 131 108 = some (.aload_n 1, []) := by decide +kernel
theorem kc_131_109 : xe_code 131 109 = some (.iload 8, []) := by decide +kernel
theorem kc_131_111 : xe_code 131 111 = some (.iload 9, []) := by decide +kernel
theorem kc_131_113 : xe_code 131 113 = some (.invokevirtual 161, [132, 2, 589, 9]) := by decide +kernel
theorem kc_131_116 : xe_code 131 116 = some (.iload 7, []) := by decide +kernel
theorem kc_131_118 : xe_code 131 118 = some (.iload 9, []) := by decide +kernel
theorem kc_131_120 : xe_code 131 120 = some (.isub, []) := by decide +kernel
theorem kc_131_121 : xe_code 131 121 = some (.istore 7, []) := by decide +kernel
theorem kc_131_123 : xe_code 131 123 = some (.iinc 8 1, []) := by decide +kernel
theorem kc_131_126 : xe_code 131 126 = some (.goto (-63), [63]) := by decide +kernel
theorem kc_131_129 : xe_code 131 129 = some (.iload 5, []) := by decide +kernel
theorem kc_131_131 : xe_code 131 131 = some (.bipush (-9), []) := by decide +kernel
theorem kc_131_133 : xe_code 131 133 = some (.if_icmp .eq 11, [144]) := by decide +kernel
theorem kc_131_136 : xe_code 131 136 = some (.aload_n 1, []) := by decide +kernel
theorem kc_131_137 : xe_code 131 137 = some (.iload 5, []) := by decide +kernel
theorem kc_131_139 : xe_code 131 139 = some (.iload 7, []) := by decide +kernel
theorem kc_131_141 : xe_code 131 141 = some (.invokevirtual 161, [132, 2, 589, 9]) := by decide +kernel
theorem kc_131_144 : xe_code 131 144 = some (.return_, []) := by decide +kernel
theorem kc_132_0 : xe_code 132 0 = some (.iload_n 1, []) := by decide +kernel
theorem kc_132_1 : xe_code 132 1 = some (.ifCond .lt 39, [40]) := by decide +kernel
theorem kc_132_4 : xe_code 132 4 = some (.iload_n 1, []) := by decide +kernel
theorem kc_132_5 : xe_code 132 5 = some (.aload_n 0, []) := by decide +kernel
theorem kc_132_6 : xe_code 132 6 = some (.getfield 15, [9, 1, 205]) := by decide +kernel
theorem kc_132_9 : xe_code 132 9 = some (.arraylength, []) := by decide +kernel
theorem kc_132_10 : xe_code 132 10 = some (.if_icmp .ge 30, [40]) := by decide +kernel
theorem kc_132_13 : xe_code 132 13 = some (.aload_n 0, []) := by decide +kernel
theorem kc_132_14 : xe_code 132 14 = some (.getfield 15, [9, 1, 205]) := by decide +kernel
theorem kc_132_17 : xe_code 132 17 = some (.iload_n 1, []) := by decide +kernel
theorem kc_132_18 : xe_code 132 18 = some (.iaload, []) := by decide +kernel
theorem kc_132_19 : xe_code 132 19 = some (.iload_n 2, []) := by decide +kernel
theorem kc_132_20 : xe_code 132 20 = some (.iadd, []) := by decide +kernel
theorem kc_132_21 : xe_code 132 21 = some (.istore_n 3, []) := by decide +kernel
theorem kc_132_22 : xe_code 132 22 = some (.aload_n 0, []) := by decide +kernel
theorem kc_132_23 : xe_code 132 23 = some (.getfield 15, [9, 1, 205]) := by decide +kernel
theorem kc_132_26 : xe_code 132 26 = some (.iload_n 1, []) := by decide +kernel
theorem kc_132_27 : xe_code 132 27 = some (.iload_n 3, []) := by decide +kernel
theorem kc_132_28 : xe_code 132 28 = some (.ldc 31, [99999, 572]) := by decide +kernel
theorem kc_132_30 : xe_code 132 30 = some (.if_icmp .le 8, [38]) := by decide +kernel
theorem kc_132_33 : xe_code 132 33 = some (.ldc 31, [99999, 572]) := by decide +kernel
theorem kc_132_35 : xe_code 132 35 = some (.goto 4, [39]) := by decide +kernel
theorem kc_132_38 : xe_code 132 38 = some (.iload_n 3, []) := by decide +kernel
theorem kc_132_39 : xe_code 132 39 = some (.iastore, []) := by decide +kernel
theorem kc_132_40 : xe_code 132 40 = some (.return_, []) := by decide +kernel
theorem kc_133_0 : xe_code 133 0 = some (.iconst 0, []) := by decide +kernel
theorem kc_133_1 : xe_code 133 1 = some (.istore_n 3, []) := by decide +kernel
theorem kc_133_2 : xe_code 133 2 = some (.iload_n 3, []) := by decide +kernel
theorem kc_133_3 : xe_code 133 3 = some (.aload_n 0, []) := by decide +kernel
theorem kc_133_4 : xe_code 133 4 = some (.getfield 79, [4, 5, 177]) := by decide +kernel
theorem kc_133_7 : xe_code 133 7 = some (.if_icmp .ge 62, [69]) := by decide +kernel
theorem kc_133_10 : xe_code 133 10 = some (.iload_n 3, []) := by decide +kernel
theorem kc_133_11 : xe_code 133 11 = some (.bipush 10, []) := by decide +kernel
theorem kc_133_13 : xe_code 133 13 = some (.if_icmp .ge 56, [69]) := by decide +kernel
theorem kc_133_16 : xe_code 133 16 = some (.aload_n 0, []) := by decide +kernel
theorem kc_133_17 : xe_code 133 17 = some (.getfield 25, [4, 2, 174]) := by decide +kernel
theorem kc_133_20 : xe_code 133 20 = some (.iload_n 3, []) := by decide +kernel
theorem kc_133_21 : xe_code 133 21 = some (.aaload, []) := by decide +kernel
theorem kc_133_22 : xe_code 133 22 = some (.getfield 82, [1, 0, 157]) := by decide +kernel
theorem kc_133_25 : xe_code 133 25 = some (.iconst 3, []) := by decide +kernel
theorem kc_133_26 : xe_code 133 26 = some (.if_icmp .eq 37, [63]) := by decide +kernel
theorem kc_133_29 : xe_code 133 29 = some (.aload_n 0, []) := by decide +kernel
theorem kc_133_30 : xe_code 133 30 = some (.aload_n 1, []) := by decide +kernel
theorem kc_133_31 : xe_code 133 31 = some (.iload_n 3, []) := by decide +kernel
theorem kc_133_32 : xe_code 133 32 = some (.iload_n 2, []) := by decide +kernel
theorem kc_133_33 : xe_code 133 33 = some (.invokevirtual 134, [127, 3, 564, 4]) := by decide +kernel
theorem kc_133_36 : xe_code 133 36 = some (.ifCond .eq 27, [63]) := by decide +kernel
theorem kc_133_39 : xe_code 133 39 = some (.aload_n 1, []) := by decide +kernel
theorem kc_133_40 : xe_code 133 40 = some (.aload_n 0, []) := by decide +kernel
theorem kc_133_41 : xe_code 133 41 = some (.getfield 25, [4, 2, 174]) := by decide +kernel
theorem kc_133_44 : xe_code 133 44 = some (.iload_n 3, []) := by decide +kernel
theorem kc_133_45 : xe_code 133 45 = some (.aaload, []) := by decide +kernel
theorem kc_133_46 : xe_code 133 46 = some (.getfield 85, [1, 1, 158]) := by decide +kernel
theorem kc_133_49 : xe_code 133 49 = some (.aload_n 0, []) := by decide +kernel
theorem kc_133_50 : xe_code 133 50 = some (.aload_n 0, []) := by decide +kernel
theorem kc_133_51 : xe_code 133 51 = some (.getfield 25, [4, 2, 174]) := by decide +kernel
theorem kc_133_54 : xe_code 133 54 = some (.iload_n 3, []) := by decide +kernel
theorem kc_133_55 : xe_code 133 55 = some (.aaload, []) := by decide +kernel
theorem kc_133_56 : xe_code 133 56 = some (.iload_n 2, []) := by decide +kernel
theorem kc_133_57 : xe_code 133 57 = some (.invokevirtual 164, [134, 2, 597, 4]) := by decide +kernel
theorem kc_133_60 : xe_code 133 60 = some (.invokevirtual 161, [132, 2, 589, 9]) := by decide +kernel
theorem kc_133_63 : xe_code 133 63 = some (.iinc 3 1, []) := by decide +kernel
theorem kc_133_66 : xe_code 133 66 = some (.goto (-64), [2]) := by decide +kernel
theorem kc_133_69 : xe_code 133 69 = some (.return_, []) := by decide +kernel
theorem kc_134_0 : xe_code 134 0 = some (.aload_n 1, []) := by decide +kernel
theorem kc_134_1 : xe_code 134 1 = some (.getfield 82, [1, 0, 157]) := by decide +kernel
theorem kc_134_4 : xe_code 134 4 = some (.tableswitch 96 0 2 #[28, 71, 76], [100, 32, 75, 80]) := by decide +kernel
theorem kc_134_32 : xe_code 134 32 = some (.aload_n 1, []) := by decide +kernel
theorem kc_134_33 : xe_code 134 33 = some (.getfield 85, [1, 1, 158]) := by decide +kernel
theorem kc_134_36 : xe_code 134 36 = some (.invokestatic 62, [105, 1, 492, 0]) := by decide +kernel
theorem kc_134_39 : xe_code 134 39 = some (.ifCond .eq 34, [73]) := by decide +kernel
theorem kc_134_42 : xe_code 134 42 = some (.aload_n 0, []) := by decide +kernel
theorem kc_134_43 : xe_code 134 43 = some (.getfield 19, [4, 1, 172]) := by decide +kernel
theorem kc_134_46 : xe_code 134 46 = some (.aload_n 1, []) := by decide +kernel
theorem kc_134_47 : xe_code 134 47 = some (.getfield 85, [1, 1, 158]) := by decide +kernel
theorem kc_134_50 : xe_code 134 50 = some (.aaload, []) := by decide +kernel
theorem kc_134_51 : xe_code 134 51 = some (.getfield 75, [11, 2, 136]) := by decide +kernel
theorem kc_134_54 : xe_code 134 54 = some (.ifCond .eq 19, [73]) := by decide +kernel
theorem kc_134_57 : xe_code 134 57 = some (.aload_n 1, []) := by decide +kernel
theorem kc_134_58 : xe_code 134 58 = some (.getfield 88, [1, 2, 159]) := by decide +kernel
theorem kc_134_61 : xe_code 134 61 = some (.aload_n 0, []) := by decide +kernel
theorem kc_134_62 : xe_code 134 62 = some (.getfield 38, [4, 4, 176]) := by decide +kernel
theorem kc_134_65 : xe_code 134 65 = some (.iload_n 2, []) := by decide +kernel
theorem kc_134_66 : xe_code 134 66 = some (.invokevirtual 98, [100, 1, 494, 8]) := by decide +kernel
theorem kc_134_69 : xe_code 134 69 = some (.imul, []) := by decide +kernel
theorem kc_134_70 : xe_code 134 70 = some (.goto 4, [74]) := by decide +kernel
theorem kc_134_73 : xe_code 134 73 = some (.iconst 0, []) := by decide +kernel
theorem kc_134_74 : xe_code 134 74 = some (.ireturn, []) := by decide +kernel
theorem kc_134_75 : xe_code 134 75 = some (.aload_n 1, []) := by decide +kernel
theorem kc_134_76 : xe_code 134 76 = some (.getfield 88, [1, 2, 159]) := by decide +kernel
theorem kc_134_79 : xe_code 134 79 = some (.ireturn, []) := by decide +kernel
theorem kc_134_80 : xe_code 134 80 = some (.iload_n 2, []) := by decide +kernel
theorem kc_134_81 : xe_code 134 81 = some (.bipush 24, []) := by decide +kernel
theorem kc_134_83 : xe_code 134 83 = some (.invokestatic 145, [3, 2, 577, 0]) := by decide +kernel
theorem kc_134_86 : xe_code 134 86 = some (.bipush 6, []) := by decide +kernel
theorem kc_134_88 : xe_code 134 88 = some (.if_icmp .ge 10, [98]) := by decide +kernel
theorem kc_134_91 : xe_code 134 91 = some (.aload_n 1, []) := by decide +kernel
theorem kc_134_92 : xe_code 134 92 = some (.getfield 88, [1, 2, 159]) := by decide +kernel
theorem kc_134_95 : xe_code 134 95 = some (.goto 4, [99]) := by decide +kernel
theorem kc_134_98 : xe_code 134 98 = some (.iconst 0, []) := by decide +kernel
theorem kc_134_99 : xe_code 134 99 = some (.ireturn, []) := by decide +kernel
theorem kc_134_100 : xe_code 134 100 = some (.iconst 0, []) := by decide +kernel
theorem kc_134_101 : xe_code 134 101 = some (.ireturn, []) := by decide +kernel
theorem kc_135_0 : xe_code 135 0 = some (.iconst 0, []) := by decide +kernel
theorem kc_135_1 : xe_code 135 1 = some (.istore_n 2, []) := by decide +kernel
theorem kc_135_2 : xe_code 135 2 = some (.iload_n 2, []) := by decide +kernel
theorem kc_135_3 : xe_code 135 3 = some (.bipush 12, []) := by decide +kernel
theorem kc_135_5 : xe_code 135 5 = some (.if_icmp .ge 40, [45]) := by decide +kernel
theorem kc_135_8 : xe_code 135 8 = some (.aload_n 1, []) := by decide +kernel
theorem kc_135_9 : xe_code 135 9 = some (.getfield 125, [9, 1, 208]) := by decide +kernel
theorem kc_135_12 : xe_code 135 12 = some (.iload_n 2, []) := by decide +kernel
theorem kc_135_13 : xe_code 135 13 = some (.iaload, []) := by decide +kernel
theorem kc_135_14 : xe_code 135 14 = some (.istore_n 3, []) := by decide +kernel
theorem kc_135_15 : xe_code 135 15 = some (.iload_n 3, []) := by decide +kernel
theorem kc_135_16 : xe_code 135 16 = some (.ifCond .le 23, [39]) := by decide +kernel
theorem kc_135_19 : xe_code 135 19 = some (.aload_n 1, []) := by decide +kernel
theorem kc_135_20 : xe_code 135 20 = some (.getfield 125, [9, 1, 208]) := by decide +kernel
theorem kc_135_23 : xe_code 135 23 = some (.iload_n 2, []) := by decide +kernel
theorem kc_135_24 : xe_code 135 24 = some (.iload_n 3, []) := by decide +kernel
theorem kc_135_25 : xe_code 135 25 = some (.iload_n 3, []) := by decide +kernel
theorem kc_135_26 : xe_code 135 26 = some (.aload_n 0, []) := by decide +kernel
theorem kc_135_27 : xe_code 135 27 = some (.getfield 41, [4, 6, 179]) := by decide +kernel
theorem kc_135_30 : xe_code 135 30 = some (.imul, []) := by decide +kernel
theorem kc_135_31 : xe_code 135 31 = some (.bipush 99, []) := by decide +kernel
theorem kc_135_33 : xe_code 135 33 = some (.iadd, []) := by decide +kernel
theorem kc_135_34 : xe_code 135 34 = some (.bipush 100, []) := by decide +kernel
theorem kc_135_36 : xe_code 135 36 = some (.idiv, []) := by decide +kernel
theorem kc_135_37 : xe_code 135 37 = some (.isub, []) := by decide +kernel
theorem kc_135_38 : xe_code 135 38 = some (.iastore, []) := by decide +kernel
theorem kc_135_39 : xe_code 135 39 = some (.iinc 2 1, []) := by decide +kernel
theorem kc_135_42 : xe_code 135 42 = some (.goto (-40), [2]) := by decide +kernel
theorem kc_135_45 : xe_code 135 45 = some (.return_, []) := by decide +kernel
theorem kc_136_0 : xe_code 136 0 = some (.iload_n 2, []) := by decide +kernel
theorem kc_136_1 : xe_code 136 1 = some (.ifCond .lt 10, [11]) := by decide +kernel
theorem kc_136_4 : xe_code 136 4 = some (.iload_n 2, []) := by decide +kernel
theorem kc_136_5 : xe_code 136 5 = some (.sipush 600, []) := by decide +kernel
theorem kc_136_8 : xe_code 136 8 = some (.if_icmp .lt 4, [12]) := by decide +kernel
theorem kc_136_11 : xe_code 136 11 = some (.return_, []) := by decide +kernel
theorem kc_136_12 : xe_code 136 12 = some (.iconst 0, []) := by decide +kernel
theorem kc_136_13 : xe_code 136 13 = some (.istore_n 3, []) := by decide +kernel
theorem kc_136_14 : xe_code 136 14 = some (.iload_n 3, []) := by decide +kernel
theorem kc_136_15 : xe_code 136 15 = some (.bipush 12, []) := by decide +kernel
theorem kc_136_17 : xe_code 136 17 = some (.if_icmp .ge 52, [69]) := by decide +kernel
theorem kc_136_20 : xe_code 136 20 = some (.aload_n 0, []) := by decide +kernel
theorem kc_136_21 : xe_code 136 21 = some (.getfield 19, [4, 1, 172]) := by decide +kernel
theorem kc_136_24 : xe_code 136 24 = some (.iload_n 3, []) := by decide +kernel
theorem kc_136_25 : xe_code 136 25 = some (.aaload, []) := by decide +kernel
theorem kc_136_26 : xe_code 136 26 = some (.getfield 122, [11, 4, 140]) := by decide +kernel
theorem kc_136_29 : xe_code 136 29 = some (.iload_n 2, []) := by decide +kernel
theorem kc_136_30 : xe_code 136 30 = some (.aload_n 1, []) := by decide +kernel
theorem kc_136_31 : xe_code 136 31 = some (.getfield 125, [9, 1, 208]) := by decide +kernel
theorem kc_136_34 : xe_code 136 34 = some (.iload_n 3, []) := by decide +kernel
theorem kc_136_35 : xe_code 136 35 = some (.iaload, []) := by decide +kernel
theorem kc_136_36 : xe_code 136 36 = some (.iastore, []) := by decide +kernel
theorem kc_136_37 : xe_code 136 37 = some (.aload_n 1, []) := by decide +kernel
theorem kc_136_38 : xe_code 136 38 = some (.getfield 125, [9, 1, 208]) := by decide +kernel
theorem kc_136_41 : xe_code 136 41 = some (.iload_n 3, []) := by decide +kernel
theorem kc_136_42 : xe_code 136 42 = some (.iaload, []) := by decide +kernel
theorem kc_136_43 : xe_code 136 43 = some (.bipush 50, []) := by decide +kernel
theorem kc_136_45 : xe_code 136 45 = some (.if_icmp .lt 18, [63]) := by decide +kernel
theorem kc_136_48 : xe_code 136 48 = some (.aload_n 0, []) := by decide +kernel
theorem kc_136_49 : xe_code 136 49 = some (.getfield 19, [4, 1, 172]) := by decide +kernel
theorem kc_136_52 : xe_code 136 52 = some (.iload_n 3, []) := by decide +kernel
theorem kc_136_53 : xe_code 136 53 = some (.aaload, []) := by decide +kernel
theorem kc_136_54 : xe_code 136 54 = some (.dup, []) := by decide +kernel
theorem kc_136_55 : xe_code 136 55 = some (.getfield 128, [11, 3, 138]) := by decide +kernel
theorem kc_136_58 : xe_code 136 58 = some (.iconst 1, []) := by decide +kernel
theorem kc_136_59 : xe_code 136 59 = some (.iadd, []) := by decide +kernel
theorem kc_136_60 : xe_code 136 60 = some (.putfield 128, [11, 3, 138]) := by decide +kernel
theorem kc_136_63 : xe_code 136 63 = some (.iinc 3 1, []) := by decide +kernel
theorem kc_136_66 : xe_code 136 66 = some (.goto (-52), [14]) := by decide +kernel
theorem kc_136_69 : xe_code 136 69 = some (.return_, []) := by decide +kernel
theorem kc_137_0 : xe_code 137 0 = some (.iconst 0, []) := by decide +kernel
theorem kc_137_1 : xe_code 137 1 = some (.istore_n 1, []) := by decide +kernel
theorem kc_137_2 : xe_code 137 2 = some (.iload_n 1, []) := by decide +kernel
theorem kc_137_3 : xe_code 137 3 = some (.aload_n 0, []) := by decide +kernel
theorem kc_137_4 : xe_code 137 4 = some (.getfield 243, [0, 8, 377]) := by decide +kernel
theorem kc_137_7 : xe_code 137 7 = some (.if_icmp .ge 53, [60]) := by decide +kernel
theorem kc_137_10 : xe_code 137 10 = some (.iload_n 1, []) := by decide +kernel
theorem kc_137_11 : xe_code 137 11 = some (.bipush 20, []) := by decide +kernel
theorem kc_137_13 : xe_code 137 13 = some (.if_icmp .ge 47, [60]) := by decide +kernel
theorem kc_137_16 : xe_code 137 16 = some (.aload_n 0, []) := by decide +kernel
theorem kc_137_17 : xe_code 137 17 = some (.getfield 55, [0, 6, 375]) := by decide +kernel
theorem kc_137_20 : xe_code 137 20 = some (.iload_n 1, []) := by decide +kernel
theorem kc_137_21 : xe_code 137 21 = some (.aaload, []) := by decide +kernel
theorem kc_137_22 : xe_code 137 22 = some (.astore_n 2, []) := by decide +kernel
theorem kc_137_23 : xe_code 137 23 = some (.aload_n 2, []) := by decide +kernel
theorem kc_137_24 : xe_code 137 24 = some (.getfield 256, [10, 4, 354]) := by decide +kernel
theorem kc_137_27 : xe_code 137 27 = some (.aload_n 0, []) := by decide +kernel
theorem kc_137_28 : xe_code 137 28 = some (.getfield 148, [0, 9, 378]) := by decide +kernel
theorem kc_137_31 : xe_code 137 31 = some (.if_icmp .ne 23, [54]) := by decide +kernel
theorem kc_137_34 : xe_code 137 34 = some (.aload_n 0, []) := by decide +kernel
theorem kc_137_35 : xe_code 137 35 = some (.getfield 10, [0, 0, 369]) := by decide +kernel
theorem kc_137_38 : xe_code 137 38 = some (.aload_n 2, []) := by decide +kernel
theorem kc_137_39 : xe_code 137 39 = some (.getfield 246, [10, 0, 350]) := by decide +kernel
theorem kc_137_42 : xe_code 137 42 = some (.aload_n 2, []) := by decide +kernel
theorem kc_137_43 : xe_code 137 43 = some (.getfield 247, [10, 1, 351]) := by decide +kernel
theorem kc_137_46 : xe_code 137 46 = some (.aload_n 2, []) := by decide +kernel
theorem kc_137_47 : xe_code 137 47 = some (.getfield 331, [10, 5, 355]) := by decide +kernel
theorem kc_137_50 : xe_code 137 50 = some (.invokevirtual 88, [93, 3, 419, 4]) := by decide +kernel
theorem kc_137_53 : xe_code 137 53 = some (.pop, []) := by decide +kernel
theorem kc_137_54 : xe_code 137 54 = some (.iinc 1 1, []) := by decide +kernel
theorem kc_137_57 : xe_code 137 57 = some (.goto (-55), [2]) := by decide +kernel
theorem kc_137_60 : xe_code 137 60 = some (.return_, []) := by decide +kernel
theorem kc_138_0 : xe_code 138 0 = some (.aload_n 0, []) := by decide +kernel
theorem kc_138_1 : xe_code 138 1 = some (.getfield 10, [0, 0, 369]) := by decide +kernel
theorem kc_138_4 : xe_code 138 4 = some (.iload_n 2, []) := by decide +kernel
theorem kc_138_5 : xe_code 138 5 = some (.invokevirtual 157, [109, 1, 515, 4]) := by decide +kernel
theorem kc_138_8 : xe_code 138 8 = some (.ifCond .ne 9, [17]) := by decide +kernel
theorem kc_138_11 : xe_code 138 11 = some (.aload_n 0, []) := by decide +kernel
theorem kc_138_12 : xe_code 138 12 = some (.iconst (-1), []) := by decide +kernel
theorem kc_138_13 : xe_code 138 13 = some (.invokevirtual 72, [91, 1, 407, 0]) := by decide +kernel
theorem kc_138_16 : xe_code 138 16 = some (.ireturn, []) := by decide +kernel
theorem kc_138_17 : xe_code 138 17 = some (.aload_n 0, []) := by decide +kernel
theorem kc_138_18 : xe_code 138 18 = some (.getfield 28, [0, 2, 371]) := by decide +kernel
theorem kc_138_21 : xe_code 138 21 = some (.iload_n 1, []) := by decide +kernel
theorem kc_138_22 : xe_code 138 22 = some (.invokevirtual 190, [139, 1, 617, 3]) := by decide +kernel
theorem kc_138_25 : xe_code 138 25 = some (.ifCond .ne 10, [35]) := by decide +kernel
theorem kc_138_28 : xe_code 138 28 = some (.aload_n 0, []) := by decide +kernel
theorem kc_138_29 : xe_code 138 29 = some (.bipush (-2), []) := by decide +kernel
theorem kc_138_31 : xe_code 138 31 = some (.invokevirtual 72, [91, 1, 407, 0]) := by decide +kernel
theorem kc_138_34 : xe_code 138 34 = some (.ireturn, []) := by decide +kernel
theorem kc_138_35 : xe_code 138 35 = some (.aload_n 0, []) := by decide +kernel
theorem kc_138_36 : xe_code 138 36 = some (.getfield 28, [0, 2, 371]) := by decide +kernel
theorem kc_138_39 : xe_code 138 39 = some (.iload_n 1, []) := by decide +kernel
theorem kc_138_40 : xe_code 138 40 = some (.iload_n 2, []) := by decide +kernel
theorem kc_138_41 : xe_code 138 41 = some (.aload_n 0, []) := by decide +kernel
theorem kc_138_42 : xe_code 138 42 = some (.getfield 148, [0, 9, 378]) := by decide +kernel
theorem kc_138_45 : xe_code 138 45 = some (.invokevirtual 204, [142, 3, 629, 3]) := by decide +kernel
theorem kc_138_48 : xe_code 138 48 = some (.ireturn, []) := by decide +kernel
theorem kc_139_0 : xe_code 139 0 = some (.iload_n 1, []) := by decide +kernel
theorem kc_139_1 : xe_code 139 1 = some (.ifCond .lt 15, [16]) := by decide +kernel
theorem kc_139_4 : xe_code 139 4 = some (.iload_n 1, []) := by decide +kernel
theorem kc_139_5 : xe_code 139 5 = some (.aload_n 0, []) := by decide +kernel
theorem kc_139_6 : xe_code 139 6 = some (.invokevirtual 47, [140, 0, 621, 3]) := by decide +kernel
theorem kc_139_9 : xe_code 139 9 = some (.if_icmp .ge 7, [16]) := by decide +kernel
theorem kc_139_12 : xe_code 139 12 = some (.iconst 1, []) := by decide +kernel
theorem kc_139_13 : xe_code 139 13 = some (.goto 4, [17]) := by decide +kernel
theorem kc_139_16 : xe_code 139 16 = some (.iconst 0, []) := by decide +kernel
theorem kc_139_17 : xe_code 139 17 = some (.ireturn, []) := by decide +kernel
theorem kc_140_0 : xe_code 140 0 = some (.iconst 1, []) := by decide +kernel
theorem kc_140_1 : xe_code 140 1 = some (.aload_n 0, []) := by decide +kernel
theorem kc_140_2 : xe_code 140 2 = some (.getfield 35, [3, 0, 232]) := by decide +kernel
theorem kc_140_5 : xe_code 140 5 = some (.invokevirtual 87, [141, 0, 625, 4]) := by decide +kernel
theorem kc_140_8 : xe_code 140 8 = some (.ishl, []) := by decide +kernel
theorem kc_140_9 : xe_code 140 9 = some (.ireturn, []) := by decide +kernel
theorem kc_141_0 : xe_code 141 0 = some (.aload_n 0, []) := by decide +kernel
theorem kc_141_1 : xe_code 141 1 = some (.getfield 79, [4, 5, 177]) := by decide +kernel
theorem kc_141_4 : xe_code 141 4 = some (.bipush 6, []) := by decide +kernel
theorem kc_141_6 : xe_code 141 6 = some (.if_icmp .ge 10, [16]) := by decide +kernel
theorem kc_141_9 : xe_code 141 9 = some (.aload_n 0, []) := by decide +kernel
theorem kc_141_10 : xe_code 141 10 = some (.getfield 79, [4, 5, 177]) := by decide +kernel
theorem kc_141_13 : xe_code 141 13 = some (.goto 5, [18]) := by decide +kernel
theorem kc_141_16 : xe_code 141 16 = some (.bipush 6, []) := by decide +kernel
theorem kc_141_18 : xe_code 141 18 = some (.ireturn, []) := by decide +kernel
theorem kc_142_0 : xe_code 142 0 = some (.aload_n 0, []) := by decide +kernel
theorem kc_142_1 : xe_code 142 1 = some (.getfield 12, [3, 1, 233]) := by decide +kernel
theorem kc_142_4 : xe_code 142 4 = some (.iload_n 1, []) := by decide +kernel
theorem kc_142_5 : xe_code 142 5 = some (.aload_n 0, []) := by decide +kernel
theorem kc_142_6 : xe_code 142 6 = some (.getfield 35, [3, 0, 232]) := by decide +kernel
theorem kc_142_9 : xe_code 142 9 = some (.invokevirtual 55, [143, 0, 633, 4]) := by decide +kernel
theorem kc_142_12 : xe_code 142 12 = some (.invokevirtual 60, [144, 2, 637, 9]) := by decide +kernel
theorem kc_142_15 : xe_code 142 15 = some (.iconst 0, []) := by decide +kernel
theorem kc_142_16 : xe_code 142 16 = some (.istore 4, []) := by decide +kernel
theorem kc_142_18 : xe_code 142 18 = some (.iload 4, []) := by decide +kernel
theorem kc_142_20 : xe_code 142 20 = some (.iload_n 3, []) := by decide +kernel
theorem kc_142_21 : xe_code 142 21 = some (.if_icmp .ge 30, [51]) := by decide +kernel
theorem kc_142_24 : xe_code 142 24 = some (.iload 4, []) := by decide +kernel
theorem kc_142_26 : xe_code 142 26 = some (.sipush 600, []) := by decide +kernel
theorem kc_142_29 : xe_code 142 29 = some (.if_icmp .ge 22, [51]) := by decide +kernel
theorem kc_142_32 : xe_code 142 32 = some (.aload_n 0, []) := by decide +kernel
theorem kc_142_33 : xe_code 142 33 = some (.getfield 35, [3, 0, 232]) := by decide +kernel
theorem kc_142_36 : xe_code 142 36 = some (.aload_n 0, []) := by decide +kernel
theorem kc_142_37 : xe_code 142 37 = some (.getfield 12, [3, 1, 233]) := by decide +kernel
theorem kc_142_40 : xe_code 142 40 = some (.iload 4, []) := by decide +kernel
theorem kc_142_42 : xe_code 142 42 = some (.invokevirtual 64, [125, 2, 642, 4]) := by decide +kernel
theorem kc_142_45 : xe_code 142 45 = some (.iinc 4 1, []) := by decide +kernel
theorem kc_142_48 : xe_code 142 48 = some (.goto (-30), [18]) := by decide +kernel
theorem kc_142_51 : xe_code 142 51 = some (.iload_n 2, []) := by decide +kernel
theorem kc_142_52 : xe_code 142 52 = some (.invokestatic 72, [105, 1, 643, 0]) := by decide +kernel
theorem kc_142_55 : xe_code 142 55 = some (.ifCond .eq 15, [70]) := by decide +kernel
theorem kc_142_58 : xe_code 142 58 = some (.aload_n 0, []) := by decide +kernel
theorem kc_142_59 : xe_code 142 59 = some (.getfield 12, [3, 1, 233]) := by decide +kernel
theorem kc_142_62 : xe_code 142 62 = some (.getfield 75, [9, 1, 206]) := by decide +kernel
theorem kc_142_65 : xe_code 142 65 = some (.iload_n 2, []) := by decide +kernel
theorem kc_142_66 : xe_code 142 66 = some (.iaload, []) := by decide +kernel
theorem kc_142_67 : xe_code 142 67 = some (.goto 4, [71]) := by decide +kernel
theorem kc_142_70 : xe_code 142 70 = some (.iconst 0, []) := by decide +kernel
theorem kc_142_71 : xe_code 142 71 = some (.ireturn, []) := by decide +kernel
theorem kc_143_0 : xe_code 143 0 = some (.iconst 0, []) := by decide +kernel
theorem kc_143_1 : xe_code 143 1 = some (.istore_n 1, []) := by decide +kernel
theorem kc_143_2 : xe_code 143 2 = some (.iconst 0, []) := by decide +kernel
theorem kc_143_3 : xe_code 143 3 = some (.istore_n 2, []) := by decide +kernel
theorem kc_143_4 : xe_code 143 4 = some (.iload_n 2, []) := by decide +kernel
theorem kc_143_5 : xe_code 143 5 = some (.bipush 12, []) := by decide +kernel
theorem kc_143_7 : xe_code 143 7 = some (.if_icmp .ge 35, [42]) := by decide +kernel
theorem kc_143_10 : xe_code 143 10 = some (.aload_n 0, []) := by decide +kernel
theorem kc_143_11 : xe_code 143 11 = some (.getfield 19, [4, 1, 172]) := by decide +kernel
theorem kc_143_14 : xe_code 143 14 = some (.iload_n 2, []) := by decide +kernel
theorem kc_143_15 : xe_code 143 15 = some (.aaload, []) := by decide +kernel
theorem kc_143_16 : xe_code 143 16 = some (.invokevirtual 65, [106, 0, 493, 11]) := by decide +kernel
theorem kc_143_19 : xe_code 143 19 = some (.ifCond .eq 17, [36]) := by decide +kernel
theorem kc_143_22 : xe_code 143 22 = some (.iload_n 1, []) := by decide +kernel
theorem kc_143_23 : xe_code 143 23 = some (.iconst 1, []) := by decide +kernel
theorem kc_143_24 : xe_code 143 24 = some (.aload_n 0, []) := by decide +kernel
theorem kc_143_25 : xe_code 143 25 = some (.getfield 19, [4, 1, 172]) := by decide +kernel
theorem kc_143_28 : xe_code 143 28 = some (.iload_n 2, []) := by decide +kernel
theorem kc_143_29 : xe_code 143 29 = some (.aaload, []) := by decide +kernel
theorem kc_143_30 : xe_code 143 30 = some (.getfield 69, [11, 0, 131]) := by decide +kernel
theorem kc_143_33 : xe_code 143 33 = some (.ishl, []) := by decide +kernel
theorem kc_143_34 : xe_code 143 34 = some (.ior, []) := by decide +kernel
theorem kc_143_35 : xe_code 143 35 = some (.istore_n 1, []) := by decide +kernel
theorem kc_143_36 : xe_code 143 36 = some (.iinc 2 1, []) := by decide +kernel
theorem kc_143_39 : xe_code 143 39 = some (.goto (-35), [4]) := by decide +kernel
theorem kc_143_42 : xe_code 143 42 = some (.iload_n 1, []) := by decide +kernel
theorem kc_143_43 : xe_code 143 43 = some (.ireturn, []) := by decide +kernel
theorem kc_144_0 : xe_code 144 0 = some (.aload_n 0, []) := by decide +kernel
theorem kc_144_1 : xe_code 144 1 = some (.getfield 9, [9, 0, 202]) := by decide +kernel
theorem kc_144_4 : xe_code 144 4 = some (.iconst 0, []) := by decide +kernel
theorem kc_144_5 : xe_code 144 5 = some (.invokestatic 18, [1, 2, 641, 0]) := by decide +kernel
theorem kc_144_8 : xe_code 144 8 = some (.aload_n 0, []) := by decide +kernel
theorem kc_144_9 : xe_code 144 9 = some (.getfield 15, [9, 1, 205]) := by decide +kernel
theorem kc_144_12 : xe_code 144 12 = some (.iconst 0, []) := by decide +kernel
theorem kc_144_13 : xe_code 144 13 = some (.invokestatic 18, [1, 2, 641, 0]) := by decide +kernel
theorem kc_144_16 : xe_code 144 16 = some (.aload_n 0, []) := by decide +kernel
theorem kc_144_17 : xe_code 144 17 = some (.iload_n 1, []) := by decide +kernel
theorem kc_144_18 : xe_code 144 18 = some (.putfield 24, [9, 2, 209]) := by decide +kernel
theorem kc_144_21 : xe_code 144 21 = some (.aload_n 0, []) := by decide +kernel
theorem kc_144_22 : xe_code 144 22 = some (.iload_n 2, []) := by decide +kernel
theorem kc_144_23 : xe_code 144 23 = some (.putfield 28, [9, 3, 213]) := by decide +kernel
theorem kc_144_26 : xe_code 144 26 = some (.return_, []) := by decide +kernel
theorem kc_145_0 : xe_code 145 0 = some (.aload_n 0, []) := by decide +kernel
theorem kc_145_1 : xe_code 145 1 = some (.getfield 28, [0, 2, 371]) := by decide +kernel
theorem kc_145_4 : xe_code 145 4 = some (.invokevirtual 207, [146, 0, 648, 3]) := by decide +kernel
theorem kc_145_7 : xe_code 145 7 = some (.ireturn, []) := by decide +kernel
theorem kc_146_0 : xe_code 146 0 = some (.iconst 0, []) := by decide +kernel
theorem kc_146_1 : xe_code 146 1 = some (.istore_n 1, []) := by decide +kernel
theorem kc_146_2 : xe_code 146 2 = some (.iconst 1, []) := by decide +kernel
theorem kc_146_3 : xe_code 146 3 = some (.istore_n 2, []) := by decide +kernel
theorem kc_146_4 : xe_code 146 4 = some (.iload_n 2, []) := by decide +kernel
theorem kc_146_5 : xe_code 146 5 = some (.aload_n 0, []) := by decide +kernel
theorem kc_146_6 : xe_code 146 6 = some (.invokevirtual 47, [140, 0, 621, 3]) := by decide +kernel
theorem kc_146_9 : xe_code 146 9 = some (.if_icmp .ge 46, [55]) := by decide +kernel
theorem kc_146_12 : xe_code 146 12 = some (.aload_n 0, []) := by decide +kernel
theorem kc_146_13 : xe_code 146 13 = some (.iload_n 1, []) := by decide +kernel
theorem kc_146_14 : xe_code 146 14 = some (.invokevirtual 78, [147, 1, 652, 3]) := by decide +kernel
theorem kc_146_17 : xe_code 146 17 = some (.aload_n 0, []) := by decide +kernel
theorem kc_146_18 : xe_code 146 18 = some (.iload_n 2, []) := by decide +kernel
theorem kc_146_19 : xe_code 146 19 = some (.invokevirtual 78, [147, 1, 652, 3]) := by decide +kernel
theorem kc_146_22 : xe_code 146 22 = some (.lsub, []) := by decide +kernel
theorem kc_146_23 : xe_code 146 23 = some (.lstore_n 3, []) := by decide +kernel
theorem kc_146_24 : xe_code 146 24 = some (.lload_n 3, []) := by decide +kernel
theorem kc_146_25 : xe_code 146 25 = some (.lconst 0, []) := by decide +kernel
theorem kc_146_26 : xe_code 146 26 = some (.lcmp, []) := by decide +kernel
theorem kc_146_27 : xe_code 146 27 = some (.ifCond .gt 20, [47]) := by decide +kernel
theorem kc_146_30 : xe_code 146 30 = some (.lload_n 3, []) := by decide +kernel
theorem kc_146_31 : xe_code 146 31 = some (.lconst 0, []) := by decide +kernel
theorem kc_146_32 : xe_code 146 32 = some (.lcmp, []) := by decide +kernel
theorem kc_146_33 : xe_code 146 33 = some (.ifCond .ne 16, [49]) := by decide +kernel
theorem kc_146_36 : xe_code 146 36 = some (.iload_n 2, []) := by decide +kernel
theorem kc_146_37 : xe_code 146 37 = some (.invokestatic 82, [4, 1, 661, 0]) := by decide +kernel
theorem kc_146_40 : xe_code 146 40 = some (.iload_n 1, []) := by decide +kernel
theorem kc_146_41 : xe_code 146 41 = some (.invokestatic 82, [4, 1, 661, 0]) := by decide +kernel
theorem kc_146_44 : xe_code 146 44 = some (.if_icmp .ge 5, [49]) := by decide +kernel
theorem kc_146_47 : xe_code 146 47 = some (.iload_n 2, []) := by decide +kernel
theorem kc_146_48 : xe_code 146 48 = some (.istore_n 1, []) := by decide +kernel
theorem kc_146_49 : xe_code 146 49 = some (.iinc 2 1, []) := by decide +kernel
theorem kc_146_52 : xe_code 146 52 = some (.goto (-48), [4]) := by decide +kernel
theorem kc_146_55 : xe_code 146 55 = some (.iload_n 1, []) := by decide +kernel
theorem kc_146_56 : xe_code 146 56 = some (.ireturn, []) := by decide +kernel
theorem kc_147_0 : xe_code 147 0 = some (.aload_n 0, []) := by decide +kernel
theorem kc_147_1 : xe_code 147 1 = some (.iload_n 1, []) := by decide +kernel
theorem kc_147_2 : xe_code 147 2 = some (.invokevirtual 51, [139, 1, 656, 3]) := by decide +kernel
theorem kc_147_5 : xe_code 147 5 = some (.ifCond .ne 5, [10]) := by decide +kernel
theorem kc_147_8 : xe_code 147 8 = some (.lconst 0, []) := by decide +kernel
theorem kc_147_9 : xe_code 147 9 = some (.lreturn, []) := by decide +kernel
theorem kc_147_10 : xe_code 147 10 = some (.aload_n 0, []) := by decide +kernel
theorem kc_147_11 : xe_code 147 11 = some (.getfield 39, [3, 7, 239]) := by decide +kernel
theorem kc_147_14 : xe_code 147 14 = some (.iload_n 1, []) := by decide +kernel
theorem kc_147_15 : xe_code 147 15 = some (.lshr, []) := by decide +kernel
theorem kc_147_16 : xe_code 147 16 = some (.lconst 1, []) := by decide +kernel
theorem kc_147_17 : xe_code 147 17 = some (.land, []) := by decide +kernel
theorem kc_147_18 : xe_code 147 18 = some (.lconst 0, []) := by decide +kernel
theorem kc_147_19 : xe_code 147 19 = some (.lcmp, []) := by decide +kernel
theorem kc_147_20 : xe_code 147 20 = some (.ifCond .eq 10, [30]) := by decide +kernel
theorem kc_147_23 : xe_code 147 23 = some (.aload_n 0, []) := by decide +kernel
theorem kc_147_24 : xe_code 147 24 = some (.getfield 31, [3, 6, 238]) := by decide +kernel
theorem kc_147_27 : xe_code 147 27 = some (.iload_n 1, []) := by decide +kernel
theorem kc_147_28 : xe_code 147 28 = some (.laload, []) := by decide +kernel
theorem kc_147_29 : xe_code 147 29 = some (.lreturn, []) := by decide +kernel
theorem kc_147_30 : xe_code 147 30 = some (.aload_n 0, []) := by decide +kernel
theorem kc_147_31 : xe_code 147 31 = some (.getfield 12, [3, 1, 233]) := by decide +kernel
theorem kc_147_34 : xe_code 147 34 = some (.iload_n 1, []) := by decide +kernel
theorem kc_147_35 : xe_code 147 35 = some (.aload_n 0, []) := by decide +kernel
theorem kc_147_36 : xe_code 147 36 = some (.getfield 35, [3, 0, 232]) := by decide +kernel
theorem kc_147_39 : xe_code 147 39 = some (.invokevirtual 55, [143, 0, 633, 4]) := by decide +kernel
theorem kc_147_42 : xe_code 147 42 = some (.invokevirtual 60, [144, 2, 637, 9]) := by decide +kernel
theorem kc_147_45 : xe_code 147 45 = some (.lconst 0, []) := by decide +kernel
theorem kc_147_46 : xe_code 147 46 = some (.lstore_n 2, []) := by decide +kernel
theorem kc_147_47 : xe_code 147 47 = some (.iconst 0, []) := by decide +kernel
theorem kc_147_48 : xe_code 147 48 = some (.istore 4, []) := by decide +kernel
theorem kc_147_50 : xe_code 147 50 = some (.iconst 0, []) := by decide +kernel
theorem kc_147_51 : xe_code 147 51 = some (.istore 5, []) := by decide +kernel
theorem kc_147_53 : xe_code 147 53 = some (.iload 5, []) := by decide +kernel
theorem kc_147_55 : xe_code 147 55 = some (.aload_n 0, []) := by decide +kernel
theorem kc_147_56 : xe_code 147 56 = some (.getfield 43, [3, 8, 240]) := by decide +kernel
theorem kc_147_59 : xe_code 147 59 = some (.if_icmp .ge 70, [129]) := by decide +kernel
theorem kc_147_62 : xe_code 147 62 = some (.iload 5, []) := by decide +kernel
theorem kc_147_64 : xe_code 147 64 = some (.bipush 60, []) := by decide +kernel
theorem kc_147_66 : xe_code 147 66 = some (.if_icmp .ge 63, [129]) := by decide +kernel
theorem kc_147_69 : xe_code 147 69 = some (.iload 4, []) := by decide +kernel
theorem kc_147_71 : xe_code 147 71 = some (.istore 6, []) := by decide +kernel
theorem kc_147_73 : xe_code 147 73 = some (.iload 6, []) := by decide +kernel
theorem kc_147_75 : xe_code 147 75 = some (.aload_n 0, []) := by decide +kernel
theorem kc_147_76 : xe_code 147 76 = some (.getfield 22, [3, 3, 235]) := by decide +kernel
theorem kc_147_79 : xe_code 147 79 = some (.iload 5, []) := by decide +kernel
theorem kc_147_81 : xe_code 147 81 = some (.iaload, []) := by decide +kernel
theorem kc_147_82 : xe_code 147 82 = some (.if_icmp .ge 22, [104]) := by decide +kernel
theorem kc_147_85 : xe_code 147 85 = some (.aload_n 0, []) := by decide +kernel
theorem kc_147_86 : xe_code 147 86 = some (.getfield 35, [3, 0, 232]) := by decide +kernel
theorem kc_147_89 : xe_code 147 89 = some (.aload_n 0, []) := by decide +kernel
theorem kc_147_90 : xe_code 147 90 = some (.getfield 12, [3, 1, 233]) := by decide +kernel
theorem kc_147_93 : xe_code 147 93 = some (.iload 6, []) := by decide +kernel
theorem kc_147_95 : xe_code 147 95 = some (.invokevirtual 64, [125, 2, 642, 4]) := by decide +kernel
theorem kc_147_98 : xe_code 147 98 = some (.iinc 6 1, []) := by decide +kernel
theorem kc_147_101 : xe_code 147 101 = some (.goto (-28), [73]) := by decide +kernel
theorem kc_147_104 : xe_code 147 104 = some (.aload_n 0, []) := by decide +kernel
theorem kc_147_105 : xe_code 147 105 = some (.getfield 22, [3, 3, 235]) := by decide +kernel
theorem kc_147_108 : xe_code 147 108 = some (.iload 5, []) := by decide +kernel
theorem kc_147_110 : xe_code 147 110 = some (.iaload, []) := by decide +kernel
theorem kc_147_111 : xe_code 147 111 = some (.istore 4, []) := by decide +kernel
theorem kc_147_113 : xe_code 147 113 = some (.lload_n 2, []) := by decide +kernel
theorem kc_147_114 : xe_code 147 114 = some (.aload_n 0, []) := by decide +kernel
theorem kc_147_115 : xe_code 147 115 = some (.iload 5, []) := by decide +kernel
theorem kc_147_117 : xe_code 147 117 = some (.invokevirtual 68, [148, 1, 657, 3]) := by decide +kernel
theorem kc_147_120 : xe_code 147 120 = some (.i2l, []) := by decide +kernel
theorem kc_147_121 : xe_code 147 121 = some (.ladd, []) := by decide +kernel
theorem kc_147_122 : xe_code 147 122 = some (.lstore_n 2, []) := by decide +kernel
theorem kc_147_123 : xe_code 147 123 = some (.iinc 5 1, []) := by decide +kernel
theorem kc_147_126 : xe_code 147 126 = some (.goto (-73), [53]) := by decide +kernel
theorem kc_147_129 : xe_code 147 129 = some (.aload_n 0, []) := by decide +kernel
theorem kc_147_130 : xe_code 147 130 = some (.getfield 31, [3, 6, 238]) := by decide +kernel
theorem kc_147_133 : xe_code 147 133 = some (.iload_n 1, []) := by decide +kernel
theorem kc_147_134 : xe_code 147 134 = some (.lload_n 2, []) := by decide +kernel
theorem kc_147_135 : xe_code 147 135 = some (.lastore, []) := by decide +kernel
theorem kc_147_136 : xe_code 147 136 = some (.aload_n 0, []) := by decide +kernel
theorem kc_147_137 : xe_code 147 137 = some (.dup, []) := by decide +kernel
theorem kc_147_138 : xe_code 147 138 = some (.getfield 39, [3, 7, 239]) := by decide +kernel
theorem kc_147_141 : xe_code 147 141 = some (.lconst 1, []) := by decide +kernel
theorem kc_147_142 : xe_code 147 142 = some (.iload_n 1, []) := by decide +kernel
theorem kc_147_143 : xe_code 147 143 = some (.lshl, []) := by decide +kernel
theorem kc_147_144 : xe_code 147 144 = some (.lor, []) := by decide +kernel
theorem kc_147_145 : xe_code 147 145 = some (.putfield 39, [3, 7, 239]) := by decide +kernel
theorem kc_147_148 : xe_code 147 148 = some (.lload_n 2, []) := by decide +kernel
theorem kc_147_149 : xe_code 147 149 = some (.lreturn, []) := by decide +kernel
theorem kc_148_0 : xe_code 148 0 = some (.iload_n 1, []) := by decide +kernel
theorem kc_148_1 : xe_code 148 1 = some (.ifCond .lt 21, [22]) := by decide +kernel
theorem kc_148_4 : xe_code 148 4 = some (.iload_n 1, []) := by decide +kernel
theorem kc_148_5 : xe_code 148 5 = some (.bipush 60, []) := by decide +kernel
theorem kc_148_7 : xe_code 148 7 = some (.if_icmp .ge 15, [22]) := by decide +kernel
theorem kc_148_10 : xe_code 148 10 = some (.aload_n 0, []) := by decide +kernel
theorem kc_148_11 : xe_code 148 11 = some (.getfield 18, [3, 2, 234]) := by decide +kernel
theorem kc_148_14 : xe_code 148 14 = some (.iload_n 1, []) := by decide +kernel
theorem kc_148_15 : xe_code 148 15 = some (.iaload, []) := by decide +kernel
theorem kc_148_16 : xe_code 148 16 = some (.invokestatic 72, [105, 1, 643, 0]) := by decide +kernel
theorem kc_148_19 : xe_code 148 19 = some (.ifCond .ne 5, [24]) := by decide +kernel
theorem kc_148_22 : xe_code 148 22 = some (.iconst 0, []) := by decide +kernel
theorem kc_148_23 : xe_code 148 23 = some (.ireturn, []) := by decide +kernel
theorem kc_148_24 : xe_code 148 24 = some (.aload_n 0, []) := by decide +kernel
theorem kc_148_25 : xe_code 148 25 = some (.getfield 12, [3, 1, 233]) := by decide +kernel
theorem kc_148_28 : xe_code 148 28 = some (.getfield 75, [9, 1, 206]) := by decide +kernel
theorem kc_148_31 : xe_code 148 31 = some (.aload_n 0, []) := by decide +kernel
theorem kc_148_32 : xe_code 148 32 = some (.getfield 18, [3, 2, 234]) := by decide +kernel
theorem kc_148_35 : xe_code 148 35 = some (.iload_n 1, []) := by decide +kernel
theorem kc_148_36 : xe_code 148 36 = some (.iaload, []) := by decide +kernel
theorem kc_148_37 : xe_code 148 37 = some (.iaload, []) := by decide +kernel
theorem kc_148_38 : xe_code 148 38 = some (.istore_n 2, []) := by decide +kernel
theorem kc_148_39 : xe_code 148 39 = some (.iload_n 2, []) := by decide +kernel
theorem kc_148_40 : xe_code 148 40 = some (.aload_n 0, []) := by decide +kernel
theorem kc_148_41 : xe_code 148 41 = some (.getfield 25, [3, 4, 236]) := by decide +kernel
theorem kc_148_44 : xe_code 148 44 = some (.iload_n 1, []) := by decide +kernel
theorem kc_148_45 : xe_code 148 45 = some (.iaload, []) := by decide +kernel
theorem kc_148_46 : xe_code 148 46 = some (.if_icmp .ge 12, [58]) := by decide +kernel
theorem kc_148_49 : xe_code 148 49 = some (.aload_n 0, []) := by decide +kernel
theorem kc_148_50 : xe_code 148 50 = some (.getfield 25, [3, 4, 236]) := by decide +kernel
theorem kc_148_53 : xe_code 148 53 = some (.iload_n 1, []) := by decide +kernel
theorem kc_148_54 : xe_code 148 54 = some (.iaload, []) := by decide +kernel
theorem kc_148_55 : xe_code 148 55 = some (.iload_n 2, []) := by decide +kernel
theorem kc_148_56 : xe_code 148 56 = some (.isub, []) := by decide +kernel
theorem kc_148_57 : xe_code 148 57 = some (.ireturn, []) := by decide +kernel
theorem kc_148_58 : xe_code 148 58 = some (.iload_n 2, []) := by decide +kernel
theorem kc_148_59 : xe_code 148 59 = some (.aload_n 0, []) := by decide +kernel
theorem kc_148_60 : xe_code 148 60 = some (.getfield 28, [3, 5, 237]) := by decide +kernel
theorem kc_148_63 : xe_code 148 63 = some (.iload_n 1, []) := by decide +kernel
theorem kc_148_64 : xe_code 148 64 = some (.iaload, []) := by decide +kernel
theorem kc_148_65 : xe_code 148 65 = some (.if_icmp .le 14, [79]) := by decide +kernel
theorem kc_148_68 : xe_code 148 68 = some (.iload_n 2, []) := by decide +kernel
theorem kc_148_69 : xe_code 148 69 = some (.aload_n 0, []) := by decide +kernel
theorem kc_148_70 : xe_code 148 70 = some (.getfield 28, [3, 5, 237]) := by decide +kernel
theorem kc_148_73 : xe_code 148 73 = some (.iload_n 1, []) := by decide +kernel
theorem kc_148_74 : xe_code 148 74 = some (.iaload, []) := by decide +kernel
theorem kc_148_75 : xe_code 148 75 = some (.isub, []) := by decide +kernel
theorem kc_148_76 : xe_code 148 76 = some (.goto 4, [80]) := by decide +kernel
theorem kc_148_79 : xe_code 148 79 = some (.iconst 0, []) := by decide +kernel
theorem kc_148_80 : xe_code 148 80 = some (.ireturn, []) := by decide +kernel
theorem kc_149_0 : xe_code 149 0 = some (.iload_n 1, []) := by decide +kernel
theorem kc_149_1 : xe_code 149 1 = some (.ifCond .eq 15, [16]) := by decide +kernel
theorem kc_149_4 : xe_code 149 4 = some (.iload_n 1, []) := by decide +kernel
theorem kc_149_5 : xe_code 149 5 = some (.iconst 1, []) := by decide +kernel
theorem kc_149_6 : xe_code 149 6 = some (.if_icmp .eq 10, [16]) := by decide +kernel
theorem kc_149_9 : xe_code 149 9 = some (.aload_n 0, []) := by decide +kernel
theorem kc_149_10 : xe_code 149 10 = some (.bipush (-2), []) := by decide +kernel
theorem kc_149_12 : xe_code 149 12 = some (.invokevirtual 72, [91, 1, 407, 0]) := by decide +kernel
theorem kc_149_15 : xe_code 149 15 = some (.ireturn, []) := by decide +kernel
theorem kc_149_16 : xe_code 149 16 = some (.aload_n 0, []) := by decide +kernel
theorem kc_149_17 : xe_code 149 17 = some (.getfield 28, [0, 2, 371]) := by decide +kernel
theorem kc_149_20 : xe_code 149 20 = some (.invokevirtual 211, [150, 0, 671, 3]) := by decide +kernel
theorem kc_149_23 : xe_code 149 23 = some (.istore_n 2, []) := by decide +kernel
theorem kc_149_24 : xe_code 149 24 = some (.iload_n 2, []) := by decide +kernel
theorem kc_149_25 : xe_code 149 25 = some (.bipush (-9), []) := by decide +kernel
theorem kc_149_27 : xe_code 149 27 = some (.if_icmp .eq 8, [35]) := by decide +kernel
theorem kc_149_30 : xe_code 149 30 = some (.iload_n 1, []) := by decide +kernel
theorem kc_149_31 : xe_code 149 31 = some (.iconst 1, []) := by decide +kernel
theorem kc_149_32 : xe_code 149 32 = some (.if_icmp .ne 5, [37]) := by decide +kernel
theorem kc_149_35 : xe_code 149 35 = some (.iload_n 2, []) := by decide +kernel
theorem kc_149_36 : xe_code 149 36 = some (.ireturn, []) := by decide +kernel
theorem kc_149_37 : xe_code 149 37 = some (.aload_n 0, []) := by decide +kernel
theorem kc_149_38 : xe_code 149 38 = some (.getfield 28, [0, 2, 371]) := by decide +kernel
theorem kc_149_41 : xe_code 149 41 = some (.iload_n 2, []) := by decide +kernel
theorem kc_149_42 : xe_code 149 42 = some (.invokevirtual 214, [151, 1, 675, 3]) := by decide +kernel
theorem kc_149_45 : xe_code 149 45 = some (.ireturn, []) := by decide +kernel
theorem kc_150_0 : xe_code 150 0 = some (.bipush (-9), []) := by decide +kernel
theorem kc_150_2 : xe_code 150 2 = some (.istore_n 1, []) := by decide +kernel
theorem kc_150_3 : xe_code 150 3 = some (.iconst 0, []) := by decide +kernel
theorem kc_150_4 : xe_code 150 4 = some (.istore_n 2, []) := by decide +kernel
theorem kc_150_5 : xe_code 150 5 = some (.iload_n 2, []) := by decide +kernel
theorem kc_150_6 : xe_code 150 6 = some (.aload_n 0, []) := by decide +kernel
theorem kc_150_7 : xe_code 150 7 = some (.invokevirtual 47, [140, 0, 621, 3]) := by decide +kernel
theorem kc_150_10 : xe_code 150 10 = some (.if_icmp .ge 37, [47]) := by decide +kernel
theorem kc_150_13 : xe_code 150 13 = some (.iload_n 2, []) := by decide +kernel
theorem kc_150_14 : xe_code 150 14 = some (.invokestatic 82, [4, 1, 661, 0]) := by decide +kernel
theorem kc_150_17 : xe_code 150 17 = some (.istore_n 3, []) := by decide +kernel
theorem kc_150_18 : xe_code 150 18 = some (.aload_n 0, []) := by decide +kernel
theorem kc_150_19 : xe_code 150 19 = some (.iload_n 2, []) := by decide +kernel
theorem kc_150_20 : xe_code 150 20 = some (.invokevirtual 78, [147, 1, 652, 3]) := by decide +kernel
theorem kc_150_23 : xe_code 150 23 = some (.lconst 0, []) := by decide +kernel
theorem kc_150_24 : xe_code 150 24 = some (.lcmp, []) := by decide +kernel
theorem kc_150_25 : xe_code 150 25 = some (.ifCond .ne 16, [41]) := by decide +kernel
theorem kc_150_28 : xe_code 150 28 = some (.iload_n 1, []) := by decide +kernel
theorem kc_150_29 : xe_code 150 29 = some (.bipush (-9), []) := by decide +kernel
theorem kc_150_31 : xe_code 150 31 = some (.if_icmp .eq 8, [39]) := by decide +kernel
theorem kc_150_34 : xe_code 150 34 = some (.iload_n 3, []) := by decide +kernel
theorem kc_150_35 : xe_code 150 35 = some (.iload_n 1, []) := by decide +kernel
theorem kc_150_36 : xe_code 150 36 = some (.if_icmp .ge 5, [41]) := by decide +kernel
theorem kc_150_39 : xe_code 150 39 = some (.iload_n 3, []) := by decide +kernel
theorem kc_150_40 : xe_code 150 40 = some (.istore_n 1, []) := by decide +kernel
theorem kc_150_41 : xe_code 150 41 = some (.iinc 2 1, []) := by decide +kernel
theorem kc_150_44 : xe_code 150 44 = some (.goto (-39), [5]) := by decide +kernel
theorem kc_150_47 : xe_code 150 47 = some (.iload_n 1, []) := by decide +kernel
theorem kc_150_48 : xe_code 150 48 = some (.ireturn, []) := by decide +kernel
theorem kc_151_0 : xe_code 151 0 = some (.iconst 0, []) := by decide +kernel
theorem kc_151_1 : xe_code 151 1 = some (.istore_n 2, []) := by decide +kernel
theorem kc_151_2 : xe_code 151 2 = some (.iconst 0, []) := by decide +kernel
theorem kc_151_3 : xe_code 151 3 = some (.istore_n 3, []) := by decide +kernel
theorem kc_151_4 : xe_code 151 4 = some (.iload_n 3, []) := by decide +kernel
theorem kc_151_5 : xe_code 151 5 = some (.aload_n 0, []) := by decide +kernel
theorem kc_151_6 : xe_code 151 6 = some (.invokevirtual 47, [140, 0, 621, 3]) := by decide +kernel
theorem kc_151_9 : xe_code 151 9 = some (.if_icmp .ge 30, [39]) := by decide +kernel
theorem kc_151_12 : xe_code 151 12 = some (.iload_n 3, []) := by decide +kernel
theorem kc_151_13 : xe_code 151 13 = some (.invokestatic 82, [4, 1, 661, 0]) := by decide +kernel
theorem kc_151_16 : xe_code 151 16 = some (.iload_n 1, []) := by decide +kernel
theorem kc_151_17 : xe_code 151 17 = some (.if_icmp .ne 16, [33]) := by decide +kernel
theorem kc_151_20 : xe_code 151 20 = some (.aload_n 0, []) := by decide +kernel
theorem kc_151_21 : xe_code 151 21 = some (.iload_n 3, []) := by decide +kernel
theorem kc_151_22 : xe_code 151 22 = some (.invokevirtual 78, [147, 1, 652, 3]) := by decide +kernel
theorem kc_151_25 : xe_code 151 25 = some (.lconst 0, []) := by decide +kernel
theorem kc_151_26 : xe_code 151 26 = some (.lcmp, []) := by decide +kernel
theorem kc_151_27 : xe_code 151 27 = some (.ifCond .ne 6, [33]) := by decide +kernel
theorem kc_151_30 : xe_code 151 30 = some (.iinc 2 1, []) := by decide +kernel
theorem kc_151_33 : xe_code 151 33 = some (.iinc 3 1, []) := by decide +kernel
theorem kc_151_36 : xe_code 151 36 = some (.goto (-32), [4]) := by decide +kernel
theorem kc_151_39 : xe_code 151 39 = some (.iload_n 2, []) := by decide +kernel
theorem kc_151_40 : xe_code 151 40 = some (.ireturn, []) := by decide +kernel
theorem kc_152_0 : xe_code 152 0 = some (.aload_n 0, []) := by decide +kernel
theorem kc_152_1 : xe_code 152 1 = some (.invokevirtual 217, [153, 0, 683, 0]) := by decide +kernel
theorem kc_152_4 : xe_code 152 4 = some (.invokestatic 221, [5, 1, 696, 0]) := by decide +kernel
theorem kc_152_7 : xe_code 152 7 = some (.ireturn, []) := by decide +kernel
theorem kc_153_0 : xe_code 153 0 = some (.aload_n 0, []) := by decide +kernel
theorem kc_153_1 : xe_code 153 1 = some (.getfield 35, [0, 3, 372]) := by decide +kernel
theorem kc_153_4 : xe_code 153 4 = some (.aload_n 0, []) := by decide +kernel
theorem kc_153_5 : xe_code 153 5 = some (.getfield 28, [0, 2, 371]) := by decide +kernel
theorem kc_153_8 : xe_code 153 8 = some (.invokevirtual 311, [154, 0, 687, 3]) := by decide +kernel
theorem kc_153_11 : xe_code 153 11 = some (.invokevirtual 314, [155, 1, 691, 6]) := by decide +kernel
theorem kc_153_14 : xe_code 153 14 = some (.lreturn, []) := by decide +kernel
theorem kc_154_0 : xe_code 154 0 = some (.lconst 0, []) := by decide +kernel
theorem kc_154_1 : xe_code 154 1 = some (.lstore_n 1, []) := by decide +kernel
theorem kc_154_2 : xe_code 154 2 = some (.iconst 0, []) := by decide +kernel
theorem kc_154_3 : xe_code 154 3 = some (.istore_n 3, []) := by decide +kernel
theorem kc_154_4 : xe_code 154 4 = some (.iload_n 3, []) := by decide +kernel
theorem kc_154_5 : xe_code 154 5 = some (.aload_n 0, []) := by decide +kernel
theorem kc_154_6 : xe_code 154 6 = some (.invokevirtual 47, [140, 0, 621, 3]) := by decide +kernel
theorem kc_154_9 : xe_code 154 9 = some (.if_icmp .ge 25, [34]) := by decide +kernel
theorem kc_154_12 : xe_code 154 12 = some (.aload_n 0, []) := by decide +kernel
theorem kc_154_13 : xe_code 154 13 = some (.iload_n 3, []) := by decide +kernel
theorem kc_154_14 : xe_code 154 14 = some (.invokevirtual 78, [147, 1, 652, 3]) := by decide +kernel
theorem kc_154_17 : xe_code 154 17 = some (.lconst 0, []) := by decide +kernel
theorem kc_154_18 : xe_code 154 18 = some (.lcmp, []) := by decide +kernel
theorem kc_154_19 : xe_code 154 19 = some (.ifCond .ne 9, [28]) := by decide +kernel
theorem kc_154_22 : xe_code 154 22 = some (.lload_n 1, []) := by decide +kernel
theorem kc_154_23 : xe_code 154 23 = some (.lconst 1, []) := by decide +kernel
theorem kc_154_24 : xe_code 154 24 = some (.iload_n 3, []) := by decide +kernel
theorem kc_154_25 : xe_code 154 25 = some (.lshl, []) := by decide +kernel
theorem kc_154_26 : xe_code 154 26 = some (.lor, []) := by decide +kernel
theorem kc_154_27 : xe_code 154 27 = some (.lstore_n 1, []) := by decide +kernel
theorem kc_154_28 : xe_code 154 28 = some (.iinc 3 1, []) := by decide +kernel
theorem kc_154_31 : xe_code 154 31 = some (.goto (-27), [4]) := by decide +kernel
theorem kc_154_34 : xe_code 154 34 = some (.lload_n 1, []) := by decide +kernel
theorem kc_154_35 : xe_code 154 35 = some (.lreturn, []) := by decide +kernel
theorem kc_155_0 : xe_code 155 0 = some (.lload_n 1, []) := by decide +kernel
theorem kc_155_1 : xe_code 155 1 = some (.lstore_n 3, []) := by decide +kernel
theorem kc_155_2 : xe_code 155 2 = some (.iconst 0, []) := by decide +kernel
theorem kc_155_3 : xe_code 155 3 = some (.istore 5, []) := by decide +kernel
theorem kc_155_5 : xe_code 155 5 = some (.iload 5, []) := by decide +kernel
theorem kc_155_7 : xe_code 155 7 = some (.aload_n 0, []) := by decide +kernel
theorem kc_155_8 : xe_code 155 8 = some (.getfield 25, [6, 4, 273]) := by decide +kernel
theorem kc_155_11 : xe_code 155 11 = some (.if_icmp .ge 65, [76]) := by decide +kernel
theorem kc_155_14 : xe_code 155 14 = some (.iload 5, []) := by decide +kernel
theorem kc_155_16 : xe_code 155 16 = some (.bipush 8, []) := by decide +kernel
theorem kc_155_18 : xe_code 155 18 = some (.if_icmp .ge 58, [76]) := by decide +kernel
theorem kc_155_21 : xe_code 155 21 = some (.aload_n 0, []) := by decide +kernel
theorem kc_155_22 : xe_code 155 22 = some (.getfield 22, [6, 3, 271]) := by decide +kernel
theorem kc_155_25 : xe_code 155 25 = some (.iload 5, []) := by decide +kernel
theorem kc_155_27 : xe_code 155 27 = some (.iaload, []) := by decide +kernel
theorem kc_155_28 : xe_code 155 28 = some (.iconst 1, []) := by decide +kernel
theorem kc_155_29 : xe_code 155 29 = some (.if_icmp .ne 16, [45]) := by decide +kernel
theorem kc_155_32 : xe_code 155 32 = some (.lload_n 3, []) := by decide +kernel
theorem kc_155_33 : xe_code 155 33 = some (.aload_n 0, []) := by decide +kernel
theorem kc_155_34 : xe_code 155 34 = some (.getfield 9, [6, 0, 268]) := by decide +kernel
theorem kc_155_37 : xe_code 155 37 = some (.iload 5, []) := by decide +kernel
theorem kc_155_39 : xe_code 155 39 = some (.laload, []) := by decide +kernel
theorem kc_155_40 : xe_code 155 40 = some (.land, []) := by decide +kernel
theorem kc_155_41 : xe_code 155 41 = some (.lstore_n 3, []) := by decide +kernel
theorem kc_155_42 : xe_code 155 42 = some (.goto 28, [70]) := by decide +kernel
theorem kc_155_45 : xe_code 155 45 = some (.aload_n 0, []) := by decide +kernel
theorem kc_155_46 : xe_code 155 46 = some (.getfield 22, [6, 3, 271]) := by decide +kernel
theorem kc_155_49 : xe_code 155 49 = some (.iload 5, []) := by decide +kernel
theorem kc_155_51 : xe_code 155 51 = some (.iaload, []) := by decide +kernel
theorem kc_155_52 : xe_code 155 52 = some (.iconst 2, []) := by decide +kernel
theorem kc_155_53 : xe_code 155 53 = some (.if_icmp .ne 17, [70]) := by decide +kernel
theorem kc_155_56 : xe_code 155 56 = some (.lload_n 3, []) := by decide +kernel
theorem kc_155_57 : xe_code 155 57 = some (.aload_n 0, []) := by decide +kernel
theorem kc_155_58 : xe_code 155 58 = some (.getfield 9, [6, 0, 268]) := by decide +kernel
theorem kc_155_61 : xe_code 155 61 = some (.iload 5, []) := by decide +kernel
theorem kc_155_63 : xe_code 155 63 = some (.laload, []) := by decide +kernel
theorem kc_155_64 : xe_code 155 64 = some (.ldc2_w 29, [18446744073709551615, 695]) := by decide +kernel
theorem kc_155_67 : xe_code 155 67 = some (.lxor, []) := by decide +kernel
theorem kc_155_68 : xe_code 155 68 = some (.land, []) := by decide +kernel
theorem kc_155_69 : xe_code 155 69 = some (.lstore_n 3, []) := by decide +kernel
theorem kc_155_70 : xe_code 155 70 = some (.iinc 5 1, []) := by decide +kernel
theorem kc_155_73 : xe_code 155 73 = some (.goto (-68), [5]) := by decide +kernel
theorem kc_155_76 : xe_code 155 76 = some (.lload_n 3, []) := by decide +kernel
theorem kc_155_77 : xe_code 155 77 = some (.lreturn, []) := by decide +kernel
theorem kc_156_0 : xe_code 156 0 = some (.iload_n 1, []) := by decide +kernel
theorem kc_156_1 : xe_code 156 1 = some (.ifCond .lt 9, [10]) := by decide +kernel
theorem kc_156_4 : xe_code 156 4 = some (.iload_n 1, []) := by decide +kernel
theorem kc_156_5 : xe_code 156 5 = some (.bipush 64, []) := by decide +kernel
theorem kc_156_7 : xe_code 156 7 = some (.if_icmp .lt 10, [17]) := by decide +kernel
theorem kc_156_10 : xe_code 156 10 = some (.aload_n 0, []) := by decide +kernel
theorem kc_156_11 : xe_code 156 11 = some (.bipush (-2), []) := by decide +kernel
theorem kc_156_13 : xe_code 156 13 = some (.invokevirtual 72, [91, 1, 407, 0]) := by decide +kernel
theorem kc_156_16 : xe_code 156 16 = some (.ireturn, []) := by decide +kernel
theorem kc_156_17 : xe_code 156 17 = some (.iload_n 2, []) := by decide +kernel
theorem kc_156_18 : xe_code 156 18 = some (.iconst 1, []) := by decide +kernel
theorem kc_156_19 : xe_code 156 19 = some (.if_icmp .ge 10, [29]) := by decide +kernel
theorem kc_156_22 : xe_code 156 22 = some (.aload_n 0, []) := by decide +kernel
theorem kc_156_23 : xe_code 156 23 = some (.bipush (-4), []) := by decide +kernel
theorem kc_156_25 : xe_code 156 25 = some (.invokevirtual 72, [91, 1, 407, 0]) := by decide +kernel
theorem kc_156_28 : xe_code 156 28 = some (.ireturn, []) := by decide +kernel
theorem kc_156_29 : xe_code 156 29 = some (.iload_n 2, []) := by decide +kernel
theorem kc_156_30 : xe_code 156 30 = some (.sipush 999, []) := by decide +kernel
theorem kc_156_33 : xe_code 156 33 = some (.if_icmp .gt 15, [48]) := by decide +kernel
theorem kc_156_36 : xe_code 156 36 = some (.aload_n 0, []) := by decide +kernel
theorem kc_156_37 : xe_code 156 37 = some (.getfield 35, [0, 3, 372]) := by decide +kernel
theorem kc_156_40 : xe_code 156 40 = some (.getfield 227, [6, 4, 274]) := by decide +kernel
theorem kc_156_43 : xe_code 156 43 = some (.bipush 8, []) := by decide +kernel
theorem kc_156_45 : xe_code 156 45 = some (.if_icmp .lt 10, [55]) := by decide +kernel
theorem kc_156_48 : xe_code 156 48 = some (.aload_n 0, []) := by decide +kernel
theorem kc_156_49 : xe_code 156 49 = some (.bipush (-6), []) := by decide +kernel
theorem kc_156_51 : xe_code 156 51 = some (.invokevirtual 72, [91, 1, 407, 0]) := by decide +kernel
theorem kc_156_54 : xe_code 156 54 = some (.ireturn, []) := by decide +kernel
theorem kc_156_55 : xe_code 156 55 = some (.aload_n 0, []) := by decide +kernel
theorem kc_156_56 : xe_code 156 56 = some (.getfield 35, [0, 3, 372]) := by decide +kernel
theorem kc_156_59 : xe_code 156 59 = some (.iload_n 1, []) := by decide +kernel
theorem kc_156_60 : xe_code 156 60 = some (.iload_n 2, []) := by decide +kernel
theorem kc_156_61 : xe_code 156 61 = some (.invokevirtual 228, [157, 2, 706, 6]) := by decide +kernel
theorem kc_156_64 : xe_code 156 64 = some (.ireturn, []) := by decide +kernel
theorem kc_157_0 : xe_code 157 0 = some (.aload_n 0, []) := by decide +kernel
theorem kc_157_1 : xe_code 157 1 = some (.getfield 25, [6, 4, 273]) := by decide +kernel
theorem kc_157_4 : xe_code 157 4 = some (.bipush 8, []) := by decide +kernel
theorem kc_157_6 : xe_code 157 6 = some (.if_icmp .lt 6, [12]) := by decide +kernel
theorem kc_157_9 : xe_code 157 9 = some (.bipush (-9), []) := by decide +kernel
theorem kc_157_11 : xe_code 157 11 = some (.ireturn, []) := by decide +kernel
theorem kc_157_12 : xe_code 157 12 = some (.lconst 0, []) := by decide +kernel
theorem kc_157_13 : xe_code 157 13 = some (.lstore_n 3, []) := by decide +kernel
theorem kc_157_14 : xe_code 157 14 = some (.iconst 0, []) := by decide +kernel
theorem kc_157_15 : xe_code 157 15 = some (.istore 5, []) := by decide +kernel
theorem kc_157_17 : xe_code 157 17 = some (.iload 5, []) := by decide +kernel
theorem kc_157_19 : xe_code 157 19 = some (.bipush 64, []) := by decide +kernel
theorem kc_157_21 : xe_code 157 21 = some (.if_icmp .ge 23, [44]) := by decide +kernel
theorem kc_157_24 : xe_code 157 24 = some (.iload 5, []) := by decide +kernel
theorem kc_157_26 : xe_code 157 26 = some (.iload_n 1, []) := by decide +kernel
theorem kc_157_27 : xe_code 157 27 = some (.iand, []) := by decide +kernel
theorem kc_157_28 : xe_code 157 28 = some (.ifCond .eq 10, [38]) := by decide +kernel
theorem kc_157_31 : xe_code 157 31 = some (.lload_n 3, []) := by decide +kernel
theorem kc_157_32 : xe_code 157 32 = some (.lconst 1, []) := by decide +kernel
theorem kc_157_33 : xe_code 157 33 = some (.iload 5, []) := by decide +kernel
theorem kc_157_35 : xe_code 157 35 = some (.lshl, []) := by decide +kernel
theorem kc_157_36 : xe_code 157 36 = some (.lor, []) := by decide +kernel
theorem kc_157_37 : xe_code 157 37 = some (.lstore_n 3, []) := by decide +kernel
theorem kc_157_38 : xe_code 157 38 = some (.iinc 5 1, []) := by decide +kernel
theorem kc_157_41 : xe_code 157 41 = some (.goto (-24), [17]) := by decide +kernel
theorem kc_157_44 : xe_code 157 44 = some (.aload_n 0, []) := by decide +kernel
theorem kc_157_45 : xe_code 157 45 = some (.getfield 9, [6, 0, 268]) := by decide +kernel
theorem kc_157_48 : xe_code 157 48 = some (.aload_n 0, []) := by decide +kernel
theorem kc_157_49 : xe_code 157 49 = some (.getfield 25, [6, 4, 273]) := by decide +kernel
theorem kc_157_52 : xe_code 157 52 = some (.lload_n 3, []) := by decide +kernel
theorem kc_157_53 : xe_code 157 53 = some (.lastore, []) := by decide +kernel
theorem kc_157_54 : xe_code 157 54 = some (.aload_n 0, []) := by decide +kernel
theorem kc_157_55 : xe_code 157 55 = some (.getfield 15, [6, 1, 269]) := by decide +kernel
theorem kc_157_58 : xe_code 157 58 = some (.aload_n 0, []) := by decide +kernel
theorem kc_157_59 : xe_code 157 59 = some (.getfield 25, [6, 4, 273]) := by decide +kernel
theorem kc_157_62 : xe_code 157 62 = some (.iload_n 2, []) := by decide +kernel
theorem kc_157_63 : xe_code 157 63 = some (.iastore, []) := by decide +kernel
theorem kc_157_64 : xe_code 157 64 = some (.aload_n 0, []) := by decide +kernel
theorem kc_157_65 : xe_code 157 65 = some (.dup, []) := by decide +kernel
theorem kc_157_66 : xe_code 157 66 = some (.getfield 25, [6, 4, 273]) := by decide +kernel
theorem kc_157_69 : xe_code 157 69 = some (.iconst 1, []) := by decide +kernel
theorem kc_157_70 : xe_code 157 70 = some (.iadd, []) := by decide +kernel
theorem kc_157_71 : xe_code 157 71 = some (.putfield 25, [6, 4, 273]) := by decide +kernel
theorem kc_157_74 : xe_code 157 74 = some (.aload_n 0, []) := by decide +kernel
theorem kc_157_75 : xe_code 157 75 = some (.getfield 25, [6, 4, 273]) := by decide +kernel
theorem kc_157_78 : xe_code 157 78 = some (.iconst 1, []) := by decide +kernel
theorem kc_157_79 : xe_code 157 79 = some (.isub, []) := by decide +kernel
theorem kc_157_80 : xe_code 157 80 = some (.ireturn, []) := by decide +kernel
theorem kc_158_0 : xe_code 158 0 = some (.iload_n 1, []) := by decide +kernel
theorem kc_158_1 : xe_code 158 1 = some (.ifCond .lt 20, [21]) := by decide +kernel
theorem kc_158_4 : xe_code 158 4 = some (.iload_n 1, []) := by decide +kernel
theorem kc_158_5 : xe_code 158 5 = some (.aload_n 0, []) := by decide +kernel
theorem kc_158_6 : xe_code 158 6 = some (.getfield 35, [0, 3, 372]) := by decide +kernel
theorem kc_158_9 : xe_code 158 9 = some (.getfield 227, [6, 4, 274]) := by decide +kernel
theorem kc_158_12 : xe_code 158 12 = some (.if_icmp .ge 9, [21]) := by decide +kernel
theorem kc_158_15 : xe_code 158 15 = some (.iload_n 1, []) := by decide +kernel
theorem kc_158_16 : xe_code 158 16 = some (.bipush 8, []) := by decide +kernel
theorem kc_158_18 : xe_code 158 18 = some (.if_icmp .lt 9, [27]) := by decide +kernel
theorem kc_158_21 : xe_code 158 21 = some (.aload_n 0, []) := by decide +kernel
theorem kc_158_22 : xe_code 158 22 = some (.iconst (-1), []) := by decide +kernel
theorem kc_158_23 : xe_code 158 23 = some (.invokevirtual 72, [91, 1, 407, 0]) := by decide +kernel
theorem kc_158_26 : xe_code 158 26 = some (.ireturn, []) := by decide +kernel
theorem kc_158_27 : xe_code 158 27 = some (.aload_n 0, []) := by decide +kernel
theorem kc_158_28 : xe_code 158 28 = some (.getfield 35, [0, 3, 372]) := by decide +kernel
theorem kc_158_31 : xe_code 158 31 = some (.getfield 230, [6, 3, 272]) := by decide +kernel
theorem kc_158_34 : xe_code 158 34 = some (.iload_n 1, []) := by decide +kernel
theorem kc_158_35 : xe_code 158 35 = some (.iaload, []) := by decide +kernel
theorem kc_158_36 : xe_code 158 36 = some (.ifCond .eq 10, [46]) := by decide +kernel
theorem kc_158_39 : xe_code 158 39 = some (.aload_n 0, []) := by decide +kernel
theorem kc_158_40 : xe_code 158 40 = some (.bipush (-3), []) := by decide +kernel
theorem kc_158_42 : xe_code 158 42 = some (.invokevirtual 72, [91, 1, 407, 0]) := by decide +kernel
theorem kc_158_45 : xe_code 158 45 = some (.ireturn, []) := by decide +kernel
theorem kc_158_46 : xe_code 158 46 = some (.aload_n 0, []) := by decide +kernel
theorem kc_158_47 : xe_code 158 47 = some (.getfield 35, [0, 3, 372]) := by decide +kernel
theorem kc_158_50 : xe_code 158 50 = some (.getfield 230, [6, 3, 272]) := by decide +kernel
theorem kc_158_53 : xe_code 158 53 = some (.iload_n 1, []) := by decide +kernel
theorem kc_158_54 : xe_code 158 54 = some (.iload_n 2, []) := by decide +kernel
theorem kc_158_55 : xe_code 158 55 = some (.ifCond .eq 7, [62]) := by decide +kernel
theorem kc_158_58 : xe_code 158 58 = some (.iconst 1, []) := by decide +kernel
theorem kc_158_59 : xe_code 158 59 = some (.goto 4, [63]) := by decide +kernel
theorem kc_158_62 : xe_code 158 62 = some (.iconst 2, []) := by decide +kernel
theorem kc_158_63 : xe_code 158 63 = some (.iastore, []) := by decide +kernel
theorem kc_158_64 : xe_code 158 64 = some (.aload_n 0, []) := by decide +kernel
theorem kc_158_65 : xe_code 158 65 = some (.invokevirtual 217, [153, 0, 683, 0]) := by decide +kernel
theorem kc_158_68 : xe_code 158 68 = some (.invokestatic 221, [5, 1, 696, 0]) := by decide +kernel
theorem kc_158_71 : xe_code 158 71 = some (.ireturn, []) := by decide +kernel
theorem kc_159_0 : xe_code 159 0 = some (.aload_n 0, []) := by decide +kernel
theorem kc_159_1 : xe_code 159 1 = some (.getfield 35, [0, 3, 372]) := by decide +kernel
theorem kc_159_4 : xe_code 159 4 = some (.aload_n 0, []) := by decide +kernel
theorem kc_159_5 : xe_code 159 5 = some (.invokevirtual 217, [153, 0, 683, 0]) := by decide +kernel
theorem kc_159_8 : xe_code 159 8 = some (.invokevirtual 233, [160, 1, 718, 6]) := by decide +kernel
theorem kc_159_11 : xe_code 159 11 = some (.ireturn, []) := by decide +kernel
theorem kc_160_0 : xe_code 160 0 = some (.bipush (-9), []) := by decide +kernel
theorem kc_160_2 : xe_code 160 2 = some (.istore_n 3, []) := by decide +kernel
theorem kc_160_3 : xe_code 160 3 = some (.iconst 0, []) := by decide +kernel
theorem kc_160_4 : xe_code 160 4 = some (.istore 4, []) := by decide +kernel
theorem kc_160_6 : xe_code 160 6 = some (.iconst 0, []) := by decide +kernel
theorem kc_160_7 : xe_code 160 7 = some (.istore 5, []) := by decide +kernel
theorem kc_160_9 : xe_code 160 9 = some (.iload 5, []) := by decide +kernel
theorem kc_160_11 : xe_code 160 11 = some (.aload_n 0, []) := by decide +kernel
theorem kc_160_12 : xe_code 160 12 = some (.getfield 25, [6, 4, 273]) := by decide +kernel
theorem kc_160_15 : xe_code 160 15 = some (.if_icmp .ge 101, [116]) := by decide +kernel
theorem kc_160_18 : xe_code 160 18 = some (.iload 5, []) := by decide +kernel
theorem kc_160_20 : xe_code 160 20 = some (.bipush 8, []) := by decide +kernel
theorem kc_160_22 : xe_code 160 22 = some (.if_icmp .ge 94, [116]) := by decide +kernel
theorem kc_160_25 : xe_code 160 25 = some (.lload_n 1, []) := by decide +kernel
theorem kc_160_26 : xe_code 160 26 = some (.lconst 0, []) := by decide +kernel
theorem kc_160_27 : xe_code 160 27 = some (.lcmp, []) := by decide +kernel
theorem kc_160_28 : xe_code 160 28 = some (.ifCond .eq 88, [116]) := by decide +kernel
theorem kc_160_31 : xe_code 160 31 = some (.lload_n 1, []) := by decide +kernel
theorem kc_160_32 : xe_code 160 32 = some (.aload_n 0, []) := by decide +kernel
theorem kc_160_33 : xe_code 160 33 = some (.getfield 9, [6, 0, 268]) := by decide +kernel
theorem kc_160_36 : xe_code 160 36 = some (.iload 5, []) := by decide +kernel
theorem kc_160_38 : xe_code 160 38 = some (.laload, []) := by decide +kernel
theorem kc_160_39 : xe_code 160 39 = some (.land, []) := by decide +kernel
theorem kc_160_40 : xe_code 160 40 = some (.invokestatic 31, [5, 1, 722, 0]) := by decide +kernel
theorem kc_160_43 : xe_code 160 43 = some (.istore 6, []) := by decide +kernel
theorem kc_160_45 : xe_code 160 45 = some (.lload_n 1, []) := by decide +kernel
theorem kc_160_46 : xe_code 160 46 = some (.aload_n 0, []) := by decide +kernel
theorem kc_160_47 : xe_code 160 47 = some (.getfield 9, [6, 0, 268]) := by decide +kernel
theorem kc_160_50 : xe_code 160 50 = some (.iload 5, []) := by decide +kernel
theorem kc_160_52 : xe_code 160 52 = some (.laload, []) := by decide +kernel
theorem kc_160_53 : xe_code 160 53 = some (.ldc2_w 29, [18446744073709551615, 695]) := by decide +kernel
theorem kc_160_56 : xe_code 160 56 = some (.lxor, []) := by decide +kernel
theorem kc_160_57 : xe_code 160 57 = some (.land, []) := by decide +kernel
theorem kc_160_58 : xe_code 160 58 = some (.invokestatic 31, [5, 1, 722, 0]) := by decide +kernel
theorem kc_160_61 : xe_code 160 61 = some (.istore 7, []) := by decide +kernel
theorem kc_160_63 : xe_code 160 63 = some (.aload_n 0, []) := by decide +kernel
theorem kc_160_64 : xe_code 160 64 = some (.getfield 15, [6, 1, 269]) := by decide +kernel
theorem kc_160_67 : xe_code 160 67 = some (.iload 5, []) := by decide +kernel
theorem kc_160_69 : xe_code 160 69 = some (.iaload, []) := by decide +kernel
theorem kc_160_70 : xe_code 160 70 = some (.iload 6, []) := by decide +kernel
theorem kc_160_72 : xe_code 160 72 = some (.iload 7, []) := by decide +kernel
theorem kc_160_74 : xe_code 160 74 = some (.invokestatic 37, [6, 2, 723, 0]) := by decide +kernel
theorem kc_160_77 : xe_code 160 77 = some (.imul, []) := by decide +kernel
theorem kc_160_78 : xe_code 160 78 = some (.istore 8, []) := by decide +kernel
theorem kc_160_80 : xe_code 160 80 = some (.aload_n 0, []) := by decide +kernel
theorem kc_160_81 : xe_code 160 81 = some (.getfield 22, [6, 3, 271]) := by decide +kernel
theorem kc_160_84 : xe_code 160 84 = some (.iload 5, []) := by decide +kernel
theorem kc_160_86 : xe_code 160 86 = some (.iaload, []) := by decide +kernel
theorem kc_160_87 : xe_code 160 87 = some (.ifCond .ne 23, [110]) := by decide +kernel
theorem kc_160_90 : xe_code 160 90 = some (.iload_n 3, []) := by decide +kernel
theorem kc_160_91 : xe_code 160 91 = some (.bipush (-9), []) := by decide +kernel
theorem kc_160_93 : xe_code 160 93 = some (.if_icmp .eq 10, [103]) := by decide +kernel
theorem kc_160_96 : xe_code 160 96 = some (.iload 8, []) := by decide +kernel
theorem kc_160_98 : xe_code 160 98 = some (.iload 4, []) := by decide +kernel
theorem kc_160_100 : xe_code 160 100 = some (.if_icmp .ge 10, [110]) := by decide +kernel
theorem kc_160_103 : xe_code 160 103 = some (.iload 5, []) := by decide +kernel
theorem kc_160_105 : xe_code 160 105 = some (.istore_n 3, []) := by decide +kernel
theorem kc_160_106 : xe_code 160 106 = some (.iload 8, []) := by decide +kernel
theorem kc_160_108 : xe_code 160 108 = some (.istore 4, []) := by decide +kernel
theorem kc_160_110 : xe_code 160 110 = some (.iinc 5 1, []) := by decide +kernel
theorem kc_160_113 : xe_code 160 113 = some (.goto (-104), [9]) := by decide +kernel
theorem kc_160_116 : xe_code 160 116 = some (.iload_n 3, []) := by decide +kernel
theorem kc_160_117 : xe_code 160 117 = some (.ireturn, []) := by decide +kernel
theorem kc_161_0 : xe_code 161 0 = some (.aload_n 0, []) := by decide +kernel
theorem kc_161_1 : xe_code 161 1 = some (.getfield 35, [0, 3, 372]) := by decide +kernel
theorem kc_161_4 : xe_code 161 4 = some (.aload_n 0, []) := by decide +kernel
theorem kc_161_5 : xe_code 161 5 = some (.invokevirtual 217, [153, 0, 683, 0]) := by decide +kernel
theorem kc_161_8 : xe_code 161 8 = some (.invokevirtual 236, [162, 1, 730, 6]) := by decide +kernel
theorem kc_161_11 : xe_code 161 11 = some (.ireturn, []) := by decide +kernel
theorem kc_162_0 : xe_code 162 0 = some (.aload_n 0, []) := by decide +kernel
theorem kc_162_1 : xe_code 162 1 = some (.getfield 19, [6, 2, 270]) := by decide +kernel
theorem kc_162_4 : xe_code 162 4 = some (.bipush (-9), []) := by decide +kernel
theorem kc_162_6 : xe_code 162 6 = some (.invokestatic 43, [1, 2, 734, 0]) := by decide +kernel
theorem kc_162_9 : xe_code 162 9 = some (.aload_n 0, []) := by decide +kernel
theorem kc_162_10 : xe_code 162 10 = some (.lload_n 1, []) := by decide +kernel
theorem kc_162_11 : xe_code 162 11 = some (.iconst 0, []) := by decide +kernel
theorem kc_162_12 : xe_code 162 12 = some (.iconst 0, []) := by decide +kernel
theorem kc_162_13 : xe_code 162 13 = some (.invokevirtual 49, [163, 3, 735, 6]) := by decide +kernel
theorem kc_162_16 : xe_code 162 16 = some (.ireturn, []) := by decide +kernel
theorem kc_163_0 : xe_code 163 0 = some (.lload_n 1, []) := by decide +kernel
theorem kc_163_1 : xe_code 163 1 = some (.invokestatic 31, [5, 1, 722, 0]) := by decide +kernel
theorem kc_163_4 : xe_code 163 4 = some (.iconst 1, []) := by decide +kernel
theorem kc_163_5 : xe_code 163 5 = some (.if_icmp .le 21, [26]) := by decide +kernel
theorem kc_163_8 : xe_code 163 8 = some (.iload_n 3, []) := by decide +kernel
theorem kc_163_9 : xe_code 163 9 = some (.ifCond .lt 17, [26]) := by decide +kernel
theorem kc_163_12 : xe_code 163 12 = some (.iload_n 3, []) := by decide +kernel
theorem kc_163_13 : xe_code 163 13 = some (.sipush 6561, []) := by decide +kernel
theorem kc_163_16 : xe_code 163 16 = some (.if_icmp .ge 10, [26]) := by decide +kernel
theorem kc_163_19 : xe_code 163 19 = some (.iload 4, []) := by decide +kernel
theorem kc_163_21 : xe_code 163 21 = some (.bipush 8, []) := by decide +kernel
theorem kc_163_23 : xe_code 163 23 = some (.if_icmp .le 5, [28]) := by decide +kernel
theorem kc_163_26 : xe_code 163 26 = some (.iconst 0, []) := by decide +kernel
theorem kc_163_27 : xe_code 163 27 = some (.ireturn, []) := by decide +kernel
theorem kc_163_28 : xe_code 163 28 = some (.aload_n 0, []) := by decide +kernel
theorem kc_163_29 : xe_code 163 29 = some (.getfield 19, [6, 2, 270]) := by decide +kernel
theorem kc_163_32 : xe_code 163 32 = some (.iload_n 3, []) := by decide +kernel
theorem kc_163_33 : xe_code 163 33 = some (.iaload, []) := by decide +kernel
theorem kc_163_34 : xe_code 163 34 = some (.bipush (-9), []) := by decide +kernel
theorem kc_163_36 : xe_code 163 36 = some (.if_icmp .eq 10, [46]) := by decide +kernel
theorem kc_163_39 : xe_code 163 39 = some (.aload_n 0, []) := by decide +kernel
theorem kc_163_40 : xe_code 163 40 = some (.getfield 19, [6, 2, 270]) := by decide +kernel
theorem kc_163_43 : xe_code 163 43 = some (.iload_n 3, []) := by decide +kernel
theorem kc_163_44 : xe_code 163 44 = some (.iaload, []) := by decide +kernel
theorem kc_163_45 : xe_code 163 45 = some (.ireturn, []) := by decide +kernel
theorem kc_163_46 : xe_code 163 46 = some (.bipush (-9), []) := by decide +kernel
theorem kc_163_48 : xe_code 163 48 = some (.istore 5, []) := by decide +kernel
theorem kc_163_50 : xe_code 163 50 = some (.iconst 1, []) := by decide +kernel
theorem kc_163_51 : xe_code 163 51 = some (.istore 6, []) := by decide +kernel
theorem kc_163_53 : xe_code 163 53 = some (.iconst 0, []) := by decide +kernel
theorem kc_163_54 : xe_code 163 54 = some (.istore 7, []) := by decide +kernel
theorem kc_163_56 : xe_code 163 56 = some (.iload 7, []) := by decide +kernel
theorem kc_163_58 : xe_code 163 58 = some (.aload_n 0, []) := by decide +kernel
theorem kc_163_59 : xe_code 163 59 = some (.getfield 25, [6, 4, 273]) := by decide +kernel
theorem kc_163_62 : xe_code 163 62 = some (.if_icmp .ge 134, [196]) := by decide +kernel
theorem kc_163_65 : xe_code 163 65 = some (.iload 7, []) := by decide +kernel
theorem kc_163_67 : xe_code 163 67 = some (.bipush 8, []) := by decide +kernel
theorem kc_163_69 : xe_code 163 69 = some (.if_icmp .ge 127, [196]) := by decide +kernel
theorem kc_163_72 : xe_code 163 72 = some (.lload_n 1, []) := by decide +kernel
theorem kc_163_73 : xe_code 163 73 = some (.aload_n 0, []) := by decide +kernel
theorem kc_163_74 : xe_code 163 74 = some (.getfield 9, [6, 0, 268]) := by decide +kernel
theorem kc_163_77 : xe_code 163 77 = some (.iload 7, []) := by decide +kernel
theorem kc_163_79 : xe_code 163 79 = some (.laload, []) := by decide +kernel
theorem kc_163_80 : xe_code 163 80 = some (.land, []) := by decide +kernel
theorem kc_163_81 : xe_code 163 81 = some (.lstore 8, []) := by decide +kernel
theorem kc_163_83 : xe_code 163 83 = some (.lload_n 1, []) := by decide +kernel
theorem kc_163_84 : xe_code 163 84 = some (.aload_n 0, []) := by decide +kernel
theorem kc_163_85 : xe_code 163 85 = some (.getfield 9, [6, 0, 268]) := by decide +kernel
theorem kc_163_88 : xe_code 163 88 = some (.iload 7, []) := by decide +kernel
theorem kc_163_90 : xe_code 163 90 = some (.laload, []) := by decide +kernel
theorem kc_163_91 : xe_code 163 91 = some (.ldc2_w 29, [18446744073709551615, 695]) := by decide +kernel
theorem kc_163_94 : xe_code 163 94 = some (.lxor, []) := by decide +kernel
theorem kc_163_95 : xe_code 163 95 = some (.land, []) := by decide +kernel
theorem kc_163_96 : xe_code 163 96 = some (.lstore 10, []) := by decide +kernel
theorem kc_163_98 : xe_code 163 98 = some (.lload 8, []) := by decide +kernel
theorem kc_163_100 : xe_code 163 100 = some (.lconst 0, []) := by decide +kernel
theorem kc_163_101 : xe_code 163 101 = some (.lcmp, []) := by decide +kernel
theorem kc_163_102 : xe_code 163 102 = some (.ifCond .eq 82, [184]) := by decide +kernel
theorem kc_163_105 : xe_code 163 105 = some (.lload 10, []) := by decide +kernel
theorem kc_163_107 : xe_code 163 107 = some (.lconst 0, []) := by decide +kernel
theorem kc_163_108 : xe_code 163 108 = some (.lcmp, []) := by decide +kernel
theorem kc_163_109 : xe_code 163 109 = some (.ifCond .eq 75, [184]) := by decide +kernel
theorem kc_163_112 : xe_code 163 112 = some (.aload_n 0, []) := by decide +kernel
theorem kc_163_113 : xe_code 163 113 = some (.lload 8, []) := by decide +kernel
theorem kc_163_115 : xe_code 163 115 = some (.iload_n 3, []) := by decide +kernel
theorem kc_163_116 : xe_code 163 116 = some (.iload 6, []) := by decide +kernel
theorem kc_163_118 : xe_code 163 118 = some (.iadd, []) := by decide +kernel
theorem kc_163_119 : xe_code 163 119 = some (.iload 4, []) := by decide +kernel
theorem kc_163_121 : xe_code 163 121 = some (.iconst 1, []) := by decide +kernel
theorem kc_163_122 : xe_code 163 122 = some (.iadd, []) := by decide +kernel
theorem kc_163_123 : xe_code 163 123 = some (.invokevirtual 49, [163, 3, 735, 6]) := by decide +kernel
theorem kc_163_126 : xe_code 163 126 = some (.aload_n 0, []) := by decide +kernel
theorem kc_163_127 : xe_code 163 127 = some (.lload 10, []) := by decide +kernel
theorem kc_163_129 : xe_code 163 129 = some (.iload_n 3, []) := by decide +kernel
theorem kc_163_130 : xe_code 163 130 = some (.iconst 2, []) := by decide +kernel
theorem kc_163_131 : xe_code 163 131 = some (.iload 6, []) := by decide +kernel
theorem kc_163_133 : xe_code 163 133 = some (.imul, []) := by decide +kernel
theorem kc_163_134 : xe_code 163 134 = some (.iadd, []) := by decide +kernel
theorem kc_163_135 : xe_code 163 135 = some (.iload 4, []) := by decide +kernel
theorem kc_163_137 : xe_code 163 137 = some (.iconst 1, []) := by decide +kernel
theorem kc_163_138 : xe_code 163 138 = some (.iadd, []) := by decide +kernel
theorem kc_163_139 : xe_code 163 139 = some (.invokevirtual 49, [163, 3, 735, 6]) := by decide +kernel
theorem kc_163_142 : xe_code 163 142 = some (.invokestatic 37, [6, 2, 723, 0]) := by decide +kernel
theorem kc_163_145 : xe_code 163 145 = some (.istore 12, []) := by decide +kernel
theorem kc_163_147 : xe_code 163 147 = some (.iload 5, []) := by decide +kernel
theorem kc_163_149 : xe_code 163 149 = some (.bipush (-9), []) := by decide +kernel
theorem kc_163_151 : xe_code 163 151 = some (.if_icmp .ne 16, [167]) := by decide +kernel
theorem kc_163_154 : xe_code 163 154 = some (.aload_n 0, []) := by decide +kernel
theorem kc_163_155 : xe_code 163 155 = some (.getfield 15, [6, 1, 269]) := by decide +kernel
theorem kc_163_158 : xe_code 163 158 = some (.iload 7, []) := by decide +kernel
theorem kc_163_160 : xe_code 163 160 = some (.iaload, []) := by decide +kernel
theorem kc_163_161 : xe_code 163 161 = some (.iload 12, []) := by decide +kernel
theorem kc_163_163 : xe_code 163 163 = some (.iadd, []) := by decide +kernel
theorem kc_163_164 : xe_code 163 164 = some (.goto 18, [182]) := by decide +kernel
theorem kc_163_167 : xe_code 163 167 = some (.iload 5, []) := by decide +kernel
theorem kc_163_169 : xe_code 163 169 = some (.aload_n 0, []) := by decide +kernel
theorem kc_163_170 : xe_code 163 170 = some (.getfield 15, [6, 1, 269]) := by decide +kernel
theorem kc_163_173 : xe_code 163 173 = some (.iload 7, []) := by decide +kernel
theorem kc_163_175 : xe_code 163 175 = some (.iaload, []) := by decide +kernel
theorem kc_163_176 : xe_code 163 176 = some (.iload 12, []) := by decide +kernel
theorem kc_163_178 : xe_code 163 178 = some (.iadd, []) := by decide +kernel
theorem kc_163_179 : xe_code 163 179 = some (.invokestatic 53, [7, 2, 739, 0]) := by decide +kernel
theorem kc_163_182 : xe_code 163 182 = some (.istore 5, []) := by decide +kernel
theorem kc_163_184 : xe_code 163 184 = some (.iload 6, []) := by decide +kernel
theorem kc_163_186 : xe_code 163 186 = some (.iconst 3, []) := by decide +kernel
theorem kc_163_187 : xe_code 163 187 = some (.imul, []) := by decide +kernel
theorem kc_163_188 : xe_code 163 188 = some (.istore 6, []) := by decide +kernel
theorem kc_163_190 : xe_code 163 190 = some (.iinc 7 1, []) := by decide +kernel
theorem kc_163_193 : xe_code 163 193 = some (.goto (-137), [56]) := by decide +kernel
theorem kc_163_196 : xe_code 163 196 = some (.aload_n 0, []) := by decide +kernel
theorem kc_163_197 : xe_code 163 197 = some (.getfield 19, [6, 2, 270]) := by decide +kernel
theorem kc_163_200 : xe_code 163 200 = some (.iload_n 3, []) := by decide +kernel
theorem kc_163_201 : xe_code 163 201 = some (.iload 5, []) := by decide +kernel
theorem kc_163_203 : xe_code 163 203 = some (.bipush (-9), []) := by decide +kernel
theorem kc_163_205 : xe_code 163 205 = some (.if_icmp .ne 7, [212]) := by decide +kernel
theorem kc_163_208 : xe_code 163 208 = some (.iconst 0, []) := by decide +kernel
theorem kc_163_209 : xe_code 163 209 = some (.goto 5, [214]) := by decide +kernel
theorem kc_163_212 : xe_code 163 212 = some (.iload 5, []) := by decide +kernel
theorem kc_163_214 : xe_code 163 214 = some (.iastore, []) := by decide +kernel
theorem kc_163_215 : xe_code 163 215 = some (.aload_n 0, []) := by decide +kernel
theorem kc_163_216 : xe_code 163 216 = some (.getfield 19, [6, 2, 270]) := by decide +kernel
theorem kc_163_219 : xe_code 163 219 = some (.iload_n 3, []) := by decide +kernel
theorem kc_163_220 : xe_code 163 220 = some (.iaload, []) := by decide +kernel
theorem kc_163_221 : xe_code 163 221 = some (.ireturn, []) := by decide +kernel
theorem kc_164_0 : xe_code 164 0 = some (.iload_n 1, []) := by decide +kernel
theorem kc_164_1 : xe_code 164 1 = some (.invokestatic 68, [90, 1, 404, 0]) := by decide +kernel
theorem kc_164_4 : xe_code 164 4 = some (.ifCond .ne 9, [13]) := by decide +kernel
theorem kc_164_7 : xe_code 164 7 = some (.aload_n 0, []) := by decide +kernel
theorem kc_164_8 : xe_code 164 8 = some (.iconst (-1), []) := by decide +kernel
theorem kc_164_9 : xe_code 164 9 = some (.invokevirtual 72, [91, 1, 407, 0]) := by decide +kernel
theorem kc_164_12 : xe_code 164 12 = some (.ireturn, []) := by decide +kernel
theorem kc_164_13 : xe_code 164 13 = some (.iload_n 2, []) := by decide +kernel
theorem kc_164_14 : xe_code 164 14 = some (.ifCond .eq 15, [29]) := by decide +kernel
theorem kc_164_17 : xe_code 164 17 = some (.iload_n 2, []) := by decide +kernel
theorem kc_164_18 : xe_code 164 18 = some (.iconst 1, []) := by decide +kernel
theorem kc_164_19 : xe_code 164 19 = some (.if_icmp .eq 10, [29]) := by decide +kernel
theorem kc_164_22 : xe_code 164 22 = some (.aload_n 0, []) := by decide +kernel
theorem kc_164_23 : xe_code 164 23 = some (.bipush (-2), []) := by decide +kernel
theorem kc_164_25 : xe_code 164 25 = some (.invokevirtual 72, [91, 1, 407, 0]) := by decide +kernel
theorem kc_164_28 : xe_code 164 28 = some (.ireturn, []) := by decide +kernel
theorem kc_164_29 : xe_code 164 29 = some (.aload_n 0, []) := by decide +kernel
theorem kc_164_30 : xe_code 164 30 = some (.iload_n 1, []) := by decide +kernel
theorem kc_164_31 : xe_code 164 31 = some (.iload 4, []) := by decide +kernel
theorem kc_164_33 : xe_code 164 33 = some (.iload 5, []) := by decide +kernel
theorem kc_164_35 : xe_code 164 35 = some (.invokevirtual 239, [165, 3, 746, 0]) := by decide +kernel
theorem kc_164_38 : xe_code 164 38 = some (.ifCond .eq 10, [48]) := by decide +kernel
theorem kc_164_41 : xe_code 164 41 = some (.aload_n 0, []) := by decide +kernel
theorem kc_164_42 : xe_code 164 42 = some (.bipush (-3), []) := by decide +kernel
theorem kc_164_44 : xe_code 164 44 = some (.invokevirtual 72, [91, 1, 407, 0]) := by decide +kernel
theorem kc_164_47 : xe_code 164 47 = some (.ireturn, []) := by decide +kernel
theorem kc_164_48 : xe_code 164 48 = some (.iload_n 3, []) := by decide +kernel
theorem kc_164_49 : xe_code 164 49 = some (.ifCond .lt 19, [68]) := by decide +kernel
theorem kc_164_52 : xe_code 164 52 = some (.iload 4, []) := by decide +kernel
theorem kc_164_54 : xe_code 164 54 = some (.aload_n 0, []) := by decide +kernel
theorem kc_164_55 : xe_code 164 55 = some (.getfield 148, [0, 9, 378]) := by decide +kernel
theorem kc_164_58 : xe_code 164 58 = some (.if_icmp .lt 10, [68]) := by decide +kernel
theorem kc_164_61 : xe_code 164 61 = some (.iload 5, []) := by decide +kernel
theorem kc_164_63 : xe_code 164 63 = some (.iload 4, []) := by decide +kernel
theorem kc_164_65 : xe_code 164 65 = some (.if_icmp .gt 10, [75]) := by decide +kernel
theorem kc_164_68 : xe_code 164 68 = some (.aload_n 0, []) := by decide +kernel
theorem kc_164_69 : xe_code 164 69 = some (.bipush (-4), []) := by decide +kernel
theorem kc_164_71 : xe_code 164 71 = some (.invokevirtual 72, [91, 1, 407, 0]) := by decide +kernel
theorem kc_164_74 : xe_code 164 74 = some (.ireturn, []) := by decide +kernel
theorem kc_164_75 : xe_code 164 75 = some (.iload_n 3, []) := by decide +kernel
theorem kc_164_76 : xe_code 164 76 = some (.getstatic 79, [2, 413]) := by decide +kernel
theorem kc_164_79 : xe_code 164 79 = some (.iconst 2, []) := by decide +kernel
theorem kc_164_80 : xe_code 164 80 = some (.iaload, []) := by decide +kernel
theorem kc_164_81 : xe_code 164 81 = some (.if_icmp .gt 20, [101]) := by decide +kernel
theorem kc_164_84 : xe_code 164 84 = some (.iload 5, []) := by decide +kernel
theorem kc_164_86 : xe_code 164 86 = some (.sipush 600, []) := by decide +kernel
theorem kc_164_89 : xe_code 164 89 = some (.if_icmp .gt 12, [101]) := by decide +kernel
theorem kc_164_92 : xe_code 164 92 = some (.aload_n 0, []) := by decide +kernel
theorem kc_164_93 : xe_code 164 93 = some (.getfield 243, [0, 8, 377]) := by decide +kernel
theorem kc_164_96 : xe_code 164 96 = some (.bipush 20, []) := by decide +kernel
theorem kc_164_98 : xe_code 164 98 = some (.if_icmp .lt 10, [108]) := by decide +kernel
theorem kc_164_101 : xe_code 164 101 = some (.aload_n 0, []) := by decide +kernel
theorem kc_164_102 : xe_code 164 102 = some (.bipush (-6), []) := by decide +kernel
theorem kc_164_104 : xe_code 164 104 = some (.invokevirtual 72, [91, 1, 407, 0]) := by decide +kernel
theorem kc_164_107 : xe_code 164 107 = some (.ireturn, []) := by decide +kernel
theorem kc_164_108 : xe_code 164 108 = some (.aload_n 0, []) := by decide +kernel
theorem kc_164_109 : xe_code 164 109 = some (.getfield 55, [0, 6, 375]) := by decide +kernel
theorem kc_164_112 : xe_code 164 112 = some (.aload_n 0, []) := by decide +kernel
theorem kc_164_113 : xe_code 164 113 = some (.getfield 243, [0, 8, 377]) := by decide +kernel
theorem kc_164_116 : xe_code 164 116 = some (.aaload, []) := by decide +kernel
theorem kc_164_117 : xe_code 164 117 = some (.astore 6, []) := by decide +kernel
theorem kc_164_119 : xe_code 164 119 = some (.aload 6, []) := by decide +kernel
theorem kc_164_121 : xe_code 164 121 = some (.iload_n 1, []) := by decide +kernel
theorem kc_164_122 : xe_code 164 122 = some (.putfield 246, [10, 0, 350]) := by decide +kernel
theorem kc_164_125 : xe_code 164 125 = some (.aload 6, []) := by decide +kernel
theorem kc_164_127 : xe_code 164 127 = some (.iload_n 2, []) := by decide +kernel
theorem kc_164_128 : xe_code 164 128 = some (.ifCond .ne 7, [135]) := by decide +kernel
theorem kc_164_131 : xe_code 164 131 = some (.iconst 4, []) := by decide +kernel
theorem kc_164_132 : xe_code 164 132 = some (.goto 4, [136]) := by decide +kernel
theorem kc_164_135 : xe_code 164 135 = some (.iconst 2, []) := by decide +kernel
theorem kc_164_136 : xe_code 164 136 = some (.putfield 247, [10, 1, 351]) := by decide +kernel
theorem kc_164_139 : xe_code 164 139 = some (.aload 6, []) := by decide +kernel
theorem kc_164_141 : xe_code 164 141 = some (.iload_n 2, []) := by decide +kernel
theorem kc_164_142 : xe_code 164 142 = some (.ifCond .ne 7, [149]) := by decide +kernel
theorem kc_164_145 : xe_code 164 145 = some (.iconst 1, []) := by decide +kernel
theorem kc_164_146 : xe_code 164 146 = some (.goto 4, [150]) := by decide +kernel
theorem kc_164_149 : xe_code 164 149 = some (.iload_n 3, []) := by decide +kernel
theorem kc_164_150 : xe_code 164 150 = some (.putfield 250, [10, 2, 352]) := by decide +kernel
theorem kc_164_153 : xe_code 164 153 = some (.aload 6, []) := by decide +kernel
theorem kc_164_155 : xe_code 164 155 = some (.iload 4, []) := by decide +kernel
theorem kc_164_157 : xe_code 164 157 = some (.putfield 253, [10, 3, 353]) := by decide +kernel
theorem kc_164_160 : xe_code 164 160 = some (.aload 6, []) := by decide +kernel
theorem kc_164_162 : xe_code 164 162 = some (.iload 5, []) := by decide +kernel
theorem kc_164_164 : xe_code 164 164 = some (.putfield 256, [10, 4, 354]) := by decide +kernel
theorem kc_164_167 : xe_code 164 167 = some (.aload_n 0, []) := by decide +kernel
theorem kc_164_168 : xe_code 164 168 = some (.dup, []) := by decide +kernel
theorem kc_164_169 : xe_code 164 169 = some (.getfield 243, [0, 8, 377]) := by decide +kernel
theorem kc_164_172 : xe_code 164 172 = some (.iconst 1, []) := by decide +kernel
theorem kc_164_173 : xe_code 164 173 = some (.iadd, []) := by decide +kernel
theorem kc_164_174 : xe_code 164 174 = some (.putfield 243, [0, 8, 377]) := by decide +kernel
theorem kc_164_177 : xe_code 164 177 = some (.aload_n 0, []) := by decide +kernel
theorem kc_164_178 : xe_code 164 178 = some (.getfield 243, [0, 8, 377]) := by decide +kernel
theorem kc_164_181 : xe_code 164 181 = some (.iconst 1, []) := by decide +kernel
theorem kc_164_182 : xe_code 164 182 = some (.isub, []) := by decide +kernel
theorem kc_164_183 : xe_code 164 183 = some (.ireturn, []) := by decide +kernel
theorem kc_165_0 : xe_code 165 0 = some (.iconst 0, []) := by decide +kernel
theorem kc_165_1 : xe_code 165 1 = some (.istore 4, []) := by decide +kernel
theorem kc_165_3 : xe_code 165 3 = some (.iload 4, []) := by decide +kernel
theorem kc_165_5 : xe_code 165 5 = some (.aload_n 0, []) := by decide +kernel
theorem kc_165_6 : xe_code 165 6 = some (.getfield 243, [0, 8, 377]) := by decide +kernel
theorem kc_165_9 : xe_code 165 9 = some (.if_icmp .ge 59, [68]) := by decide +kernel
theorem kc_165_12 : xe_code 165 12 = some (.iload 4, []) := by decide +kernel
theorem kc_165_14 : xe_code 165 14 = some (.bipush 20, []) := by decide +kernel
theorem kc_165_16 : xe_code 165 16 = some (.if_icmp .ge 52, [68]) := by decide +kernel
theorem kc_165_19 : xe_code 165 19 = some (.aload_n 0, []) := by decide +kernel
theorem kc_165_20 : xe_code 165 20 = some (.getfield 55, [0, 6, 375]) := by decide +kernel
theorem kc_165_23 : xe_code 165 23 = some (.iload 4, []) := by decide +kernel
theorem kc_165_25 : xe_code 165 25 = some (.aaload, []) := by decide +kernel
theorem kc_165_26 : xe_code 165 26 = some (.astore 5, []) := by decide +kernel
theorem kc_165_28 : xe_code 165 28 = some (.iload_n 2, []) := by decide +kernel
theorem kc_165_29 : xe_code 165 29 = some (.iload_n 3, []) := by decide +kernel
theorem kc_165_30 : xe_code 165 30 = some (.if_icmp .ge 32, [62]) := by decide +kernel
theorem kc_165_33 : xe_code 165 33 = some (.aload 5, []) := by decide +kernel
theorem kc_165_35 : xe_code 165 35 = some (.getfield 246, [10, 0, 350]) := by decide +kernel
theorem kc_165_38 : xe_code 165 38 = some (.iload_n 1, []) := by decide +kernel
theorem kc_165_39 : xe_code 165 39 = some (.if_icmp .ne 23, [62]) := by decide +kernel
theorem kc_165_42 : xe_code 165 42 = some (.iload_n 2, []) := by decide +kernel
theorem kc_165_43 : xe_code 165 43 = some (.aload 5, []) := by decide +kernel
theorem kc_165_45 : xe_code 165 45 = some (.getfield 256, [10, 4, 354]) := by decide +kernel
theorem kc_165_48 : xe_code 165 48 = some (.if_icmp .ge 14, [62]) := by decide +kernel
theorem kc_165_51 : xe_code 165 51 = some (.aload 5, []) := by decide +kernel
theorem kc_165_53 : xe_code 165 53 = some (.getfield 253, [10, 3, 353]) := by decide +kernel
theorem kc_165_56 : xe_code 165 56 = some (.iload_n 3, []) := by decide +kernel
theorem kc_165_57 : xe_code 165 57 = some (.if_icmp .ge 5, [62]) := by decide +kernel
theorem kc_165_60 : xe_code 165 60 = some (.iconst 1, []) := by decide +kernel
theorem kc_165_61 : xe_code 165 61 = some (.ireturn, []) := by decide +kernel
theorem kc_165_62 : xe_code 165 62 = some (.iinc 4 1, []) := by decide +kernel
theorem kc_165_65 : xe_code 165 65 = some (.goto (-62), [3]) := by decide +kernel
theorem kc_165_68 : xe_code 165 68 = some (.iconst 0, []) := by decide +kernel
theorem kc_165_69 : xe_code 165 69 = some (.ireturn, []) := by decide +kernel
theorem kc_166_0 : xe_code 166 0 = some (.iload_n 1, []) := by decide +kernel
theorem kc_166_1 : xe_code 166 1 = some (.ifCond .lt 17, [18]) := by decide +kernel
theorem kc_166_4 : xe_code 166 4 = some (.iload_n 1, []) := by decide +kernel
theorem kc_166_5 : xe_code 166 5 = some (.aload_n 0, []) := by decide +kernel
theorem kc_166_6 : xe_code 166 6 = some (.getfield 243, [0, 8, 377]) := by decide +kernel
theorem kc_166_9 : xe_code 166 9 = some (.if_icmp .ge 9, [18]) := by decide +kernel
theorem kc_166_12 : xe_code 166 12 = some (.iload_n 1, []) := by decide +kernel
theorem kc_166_13 : xe_code 166 13 = some (.bipush 20, []) := by decide +kernel
theorem kc_166_15 : xe_code 166 15 = some (.if_icmp .lt 9, [24]) := by decide +kernel
theorem kc_166_18 : xe_code 166 18 = some (.aload_n 0, []) := by decide +kernel
theorem kc_166_19 : xe_code 166 19 = some (.iconst (-1), []) := by decide +kernel
theorem kc_166_20 : xe_code 166 20 = some (.invokevirtual 72, [91, 1, 407, 0]) := by decide +kernel
theorem kc_166_23 : xe_code 166 23 = some (.ireturn, []) := by decide +kernel
theorem kc_166_24 : xe_code 166 24 = some (.iload_n 2, []) := by decide +kernel
theorem kc_166_25 : xe_code 166 25 = some (.ifCond .lt 8, [33]) := by decide +kernel
theorem kc_166_28 : xe_code 166 28 = some (.iload_n 2, []) := by decide +kernel
theorem kc_166_29 : xe_code 166 29 = some (.iconst 2, []) := by decide +kernel
theorem kc_166_30 : xe_code 166 30 = some (.if_icmp .le 10, [40]) := by decide +kernel
theorem kc_166_33 : xe_code 166 33 = some (.aload_n 0, []) := by decide +kernel
theorem kc_166_34 : xe_code 166 34 = some (.bipush (-2), []) := by decide +kernel
theorem kc_166_36 : xe_code 166 36 = some (.invokevirtual 72, [91, 1, 407, 0]) := by decide +kernel
theorem kc_166_39 : xe_code 166 39 = some (.ireturn, []) := by decide +kernel
theorem kc_166_40 : xe_code 166 40 = some (.aload_n 0, []) := by decide +kernel
theorem kc_166_41 : xe_code 166 41 = some (.getfield 55, [0, 6, 375]) := by decide +kernel
theorem kc_166_44 : xe_code 166 44 = some (.iload_n 1, []) := by decide +kernel
theorem kc_166_45 : xe_code 166 45 = some (.aaload, []) := by decide +kernel
theorem kc_166_46 : xe_code 166 46 = some (.astore_n 3, []) := by decide +kernel
theorem kc_166_47 : xe_code 166 47 = some (.aload_n 0, []) := by decide +kernel
theorem kc_166_48 : xe_code 166 48 = some (.getfield 148, [0, 9, 378]) := by decide +kernel
theorem kc_166_51 : xe_code 166 51 = some (.aload_n 3, []) := by decide +kernel
theorem kc_166_52 : xe_code 166 52 = some (.getfield 256, [10, 4, 354]) := by decide +kernel
theorem kc_166_55 : xe_code 166 55 = some (.if_icmp .ge 10, [65]) := by decide +kernel
theorem kc_166_58 : xe_code 166 58 = some (.aload_n 0, []) := by decide +kernel
theorem kc_166_59 : xe_code 166 59 = some (.bipush (-3), []) := by decide +kernel
theorem kc_166_61 : xe_code 166 61 = some (.invokevirtual 72, [91, 1, 407, 0]) := by decide +kernel
theorem kc_166_64 : xe_code 166 64 = some (.ireturn, []) := by decide +kernel
theorem kc_166_65 : xe_code 166 65 = some (.aload_n 0, []) := by decide +kernel
theorem kc_166_66 : xe_code 166 66 = some (.getfield 10, [0, 0, 369]) := by decide +kernel
theorem kc_166_69 : xe_code 166 69 = some (.aload_n 3, []) := by decide +kernel
theorem kc_166_70 : xe_code 166 70 = some (.getfield 246, [10, 0, 350]) := by decide +kernel
theorem kc_166_73 : xe_code 166 73 = some (.aload_n 3, []) := by decide +kernel
theorem kc_166_74 : xe_code 166 74 = some (.getfield 253, [10, 3, 353]) := by decide +kernel
theorem kc_166_77 : xe_code 166 77 = some (.aload_n 3, []) := by decide +kernel
theorem kc_166_78 : xe_code 166 78 = some (.getfield 256, [10, 4, 354]) := by decide +kernel
theorem kc_166_81 : xe_code 166 81 = some (.invokevirtual 259, [167, 3, 754, 4]) := by decide +kernel
theorem kc_166_84 : xe_code 166 84 = some (.istore 4, []) := by decide +kernel
theorem kc_166_86 : xe_code 166 86 = some (.aload_n 0, []) := by decide +kernel
theorem kc_166_87 : xe_code 166 87 = some (.getfield 10, [0, 0, 369]) := by decide +kernel
theorem kc_166_90 : xe_code 166 90 = some (.aload_n 3, []) := by decide +kernel
theorem kc_166_91 : xe_code 166 91 = some (.getfield 246, [10, 0, 350]) := by decide +kernel
theorem kc_166_94 : xe_code 166 94 = some (.aload_n 3, []) := by decide +kernel
theorem kc_166_95 : xe_code 166 95 = some (.getfield 253, [10, 3, 353]) := by decide +kernel
theorem kc_166_98 : xe_code 166 98 = some (.aload_n 3, []) := by decide +kernel
theorem kc_166_99 : xe_code 166 99 = some (.getfield 256, [10, 4, 354]) := by decide +kernel
theorem kc_166_102 : xe_code 166 102 = some (.aload_n 3, []) := by decide +kernel
theorem kc_166_103 : xe_code 166 103 = some (.getfield 253, [10, 3, 353]) := by decide +kernel
theorem kc_166_106 : xe_code 166 106 = some (.isub, []) := by decide +kernel
theorem kc_166_107 : xe_code 166 107 = some (.isub, []) := by decide +kernel
theorem kc_166_108 : xe_code 166 108 = some (.aload_n 3, []) := by decide +kernel
theorem kc_166_109 : xe_code 166 109 = some (.getfield 253, [10, 3, 353]) := by decide +kernel
theorem kc_166_112 : xe_code 166 112 = some (.invokevirtual 259, [167, 3, 754, 4]) := by decide +kernel
theorem kc_166_115 : xe_code 166 115 = some (.istore 5, []) := by decide +kernel
theorem kc_166_117 : xe_code 166 117 = some (.iload_n 2, []) := by decide +kernel
theorem kc_166_118 : xe_code 166 118 = some (.iconst 2, []) := by decide +kernel
theorem kc_166_119 : xe_code 166 119 = some (.if_icmp .ne 16, [135]) := by decide +kernel
theorem kc_166_122 : xe_code 166 122 = some (.iload 4, []) := by decide +kernel
theorem kc_166_124 : xe_code 166 124 = some (.iload 5, []) := by decide +kernel
theorem kc_166_126 : xe_code 166 126 = some (.if_icmp .ge 7, [133]) := by decide +kernel
theorem kc_166_129 : xe_code 166 129 = some (.iconst 1, []) := by decide +kernel
theorem kc_166_130 : xe_code 166 130 = some (.goto 4, [134]) := by decide +kernel
theorem kc_166_133 : xe_code 166 133 = some (.iconst 0, []) := by decide +kernel
theorem kc_166_134 : xe_code 166 134 = some (.ireturn, []) := by decide +kernel
theorem kc_166_135 : xe_code 166 135 = some (.iload_n 2, []) := by decide +kernel
theorem kc_166_136 : xe_code 166 136 = some (.ifCond .ne 8, [144]) := by decide +kernel
theorem kc_166_139 : xe_code 166 139 = some (.iload 4, []) := by decide +kernel
theorem kc_166_141 : xe_code 166 141 = some (.goto 5, [146]) := by decide +kernel
theorem kc_166_144 : xe_code 166 144 = some (.iload 5, []) := by decide +kernel
theorem kc_166_146 : xe_code 166 146 = some (.ireturn, []) := by decide +kernel
theorem kc_167_0 : xe_code 167 0 = some (.iload_n 2, []) := by decide +kernel
theorem kc_167_1 : xe_code 167 1 = some (.ifCond .ge 7, [8]) := by decide +kernel
theorem kc_167_4 : xe_code 167 4 = some (.iconst 0, []) := by decide +kernel
theorem kc_167_5 : xe_code 167 5 = some (.goto 4, [9]) := by decide +kernel
theorem kc_167_8 : xe_code 167 8 = some (.iload_n 2, []) := by decide +kernel
theorem kc_167_9 : xe_code 167 9 = some (.istore 4, []) := by decide +kernel
theorem kc_167_11 : xe_code 167 11 = some (.iload_n 3, []) := by decide +kernel
theorem kc_167_12 : xe_code 167 12 = some (.sipush 600, []) := by decide +kernel
theorem kc_167_15 : xe_code 167 15 = some (.if_icmp .le 9, [24]) := by decide +kernel
theorem kc_167_18 : xe_code 167 18 = some (.sipush 600, []) := by decide +kernel
theorem kc_167_21 : xe_code 167 21 = some (.goto 4, [25]) := by decide +kernel
theorem kc_167_24 : xe_code 167 24 = some (.iload_n 3, []) := by decide +kernel
theorem kc_167_25 : xe_code 167 25 = some (.istore 5, []) := by decide +kernel
theorem kc_167_27 : xe_code 167 27 = some (.lconst 0, []) := by decide +kernel
theorem kc_167_28 : xe_code 167 28 = some (.lstore 6, []) := by decide +kernel
theorem kc_167_30 : xe_code 167 30 = some (.lconst 0, []) := by decide +kernel
theorem kc_167_31 : xe_code 167 31 = some (.lstore 8, []) := by decide +kernel
theorem kc_167_33 : xe_code 167 33 = some (.iconst 0, []) := by decide +kernel
theorem kc_167_34 : xe_code 167 34 = some (.istore 10, []) := by decide +kernel
theorem kc_167_36 : xe_code 167 36 = some (.iload 10, []) := by decide +kernel
theorem kc_167_38 : xe_code 167 38 = some (.bipush 12, []) := by decide +kernel
theorem kc_167_40 : xe_code 167 40 = some (.if_icmp .ge 65, [105]) := by decide +kernel
theorem kc_167_43 : xe_code 167 43 = some (.aload_n 0, []) := by decide +kernel
theorem kc_167_44 : xe_code 167 44 = some (.getfield 19, [4, 1, 172]) := by decide +kernel
theorem kc_167_47 : xe_code 167 47 = some (.iload 10, []) := by decide +kernel
theorem kc_167_49 : xe_code 167 49 = some (.aaload, []) := by decide +kernel
theorem kc_167_50 : xe_code 167 50 = some (.getfield 69, [11, 0, 131]) := by decide +kernel
theorem kc_167_53 : xe_code 167 53 = some (.iload_n 1, []) := by decide +kernel
theorem kc_167_54 : xe_code 167 54 = some (.if_icmp .ne 45, [99]) := by decide +kernel
theorem kc_167_57 : xe_code 167 57 = some (.iload 4, []) := by decide +kernel
theorem kc_167_59 : xe_code 167 59 = some (.istore 11, []) := by decide +kernel
theorem kc_167_61 : xe_code 167 61 = some (.iload 11, []) := by decide +kernel
theorem kc_167_63 : xe_code 167 63 = some (.iload 5, []) := by decide +kernel
theorem kc_167_65 : xe_code 167 65 = some (.if_icmp .ge 34, [99]) := by decide +kernel
theorem kc_167_68 : xe_code 167 68 = some (.lload 6, []) := by decide +kernel
theorem kc_167_70 : xe_code 167 70 = some (.aload_n 0, []) := by decide +kernel
theorem kc_167_71 : xe_code 167 71 = some (.getfield 19, [4, 1, 172]) := by decide +kernel
theorem kc_167_74 : xe_code 167 74 = some (.iload 10, []) := by decide +kernel
theorem kc_167_76 : xe_code 167 76 = some (.aaload, []) := by decide +kernel
theorem kc_167_77 : xe_code 167 77 = some (.getfield 122, [11, 4, 140]) := by decide +kernel
theorem kc_167_80 : xe_code 167 80 = some (.iload 11, []) := by decide +kernel
theorem kc_167_82 : xe_code 167 82 = some (.iaload, []) := by decide +kernel
theorem kc_167_83 : xe_code 167 83 = some (.i2l, []) := by decide +kernel
theorem kc_167_84 : xe_code 167 84 = some (.ladd, []) := by decide +kernel
theorem kc_167_85 : xe_code 167 85 = some (.lstore 6, []) := by decide +kernel
theorem kc_167_87 : xe_code 167 87 = some (.lload 8, []) := by decide +kernel
theorem kc_167_89 : xe_code 167 89 = some (.lconst 1, []) := by decide +kernel
theorem kc_167_90 : xe_code 167 90 = some (.ladd, []) := by decide +kernel
theorem kc_167_91 : xe_code 167 91 = some (.lstore 8, []) := by decide +kernel
theorem kc_167_93 : xe_code 167 93 = some (.iinc 11 1, []) := by decide +kernel
theorem kc_167_96 : xe_code 167 96 = some (.goto (-35), [61]) := by decide +kernel
theorem kc_167_99 : xe_code 167 99 = some (.iinc 10 1, []) := by decide +kernel
theorem kc_167_102 : xe_code 167 102 = some (.goto (-66), [36]) := by decide +kernel
theorem kc_167_105 : xe_code 167 105 = some (.lload 8, []) := by decide +kernel
theorem kc_167_107 : xe_code 167 107 = some (.lconst 0, []) := by decide +kernel
theorem kc_167_108 : xe_code 167 108 = some (.lcmp, []) := by decide +kernel
theorem kc_167_109 : xe_code 167 109 = some (.ifCond .ne 7, [116]) := by decide +kernel
theorem kc_167_112 : xe_code 167 112 = some (.iconst 0, []) := by decide +kernel
theorem kc_167_113 : xe_code 167 113 = some (.goto 9, [122]) := by decide +kernel
theorem kc_167_116 : xe_code 167 116 = some (.lload 6, []) := by decide +kernel
theorem kc_167_118 : xe_code 167 118 = some (.lload 8, []) := by decide +kernel
theorem kc_167_120 : xe_code 167 120 = some (.ldiv, []) := by decide +kernel
theorem kc_167_121 : xe_code 167 121 = some (.l2i, []) := by decide +kernel
theorem kc_167_122 : xe_code 167 122 = some (.ireturn, []) := by decide +kernel
theorem kc_168_0 : xe_code 168 0 = some (.iload_n 1, []) := by decide +kernel
theorem kc_168_1 : xe_code 168 1 = some (.ifCond .lt 28, [29]) := by decide +kernel
theorem kc_168_4 : xe_code 168 4 = some (.iload_n 1, []) := by decide +kernel
theorem kc_168_5 : xe_code 168 5 = some (.bipush 24, []) := by decide +kernel
theorem kc_168_7 : xe_code 168 7 = some (.if_icmp .ge 22, [29]) := by decide +kernel
theorem kc_168_10 : xe_code 168 10 = some (.iload_n 2, []) := by decide +kernel
theorem kc_168_11 : xe_code 168 11 = some (.ifCond .lt 18, [29]) := by decide +kernel
theorem kc_168_14 : xe_code 168 14 = some (.iload_n 2, []) := by decide +kernel
theorem kc_168_15 : xe_code 168 15 = some (.iconst 4, []) := by decide +kernel
theorem kc_168_16 : xe_code 168 16 = some (.if_icmp .ge 13, [29]) := by decide +kernel
theorem kc_168_19 : xe_code 168 19 = some (.iload_n 3, []) := by decide +kernel
theorem kc_168_20 : xe_code 168 20 = some (.ifCond .lt 9, [29]) := by decide +kernel
theorem kc_168_23 : xe_code 168 23 = some (.iload_n 3, []) := by decide +kernel
theorem kc_168_24 : xe_code 168 24 = some (.bipush 6, []) := by decide +kernel
theorem kc_168_26 : xe_code 168 26 = some (.if_icmp .lt 9, [35]) := by decide +kernel
theorem kc_168_29 : xe_code 168 29 = some (.aload_n 0, []) := by decide +kernel
theorem kc_168_30 : xe_code 168 30 = some (.iconst (-1), []) := by decide +kernel
theorem kc_168_31 : xe_code 168 31 = some (.invokevirtual 72, [91, 1, 407, 0]) := by decide +kernel
theorem kc_168_34 : xe_code 168 34 = some (.ireturn, []) := by decide +kernel
theorem kc_168_35 : xe_code 168 35 = some (.iload 4, []) := by decide +kernel
theorem kc_168_37 : xe_code 168 37 = some (.ifCond .lt 9, [46]) := by decide +kernel
theorem kc_168_40 : xe_code 168 40 = some (.iload 4, []) := by decide +kernel
theorem kc_168_42 : xe_code 168 42 = some (.iconst 2, []) := by decide +kernel
theorem kc_168_43 : xe_code 168 43 = some (.if_icmp .le 10, [53]) := by decide +kernel
theorem kc_168_46 : xe_code 168 46 = some (.aload_n 0, []) := by decide +kernel
theorem kc_168_47 : xe_code 168 47 = some (.bipush (-2), []) := by decide +kernel
theorem kc_168_49 : xe_code 168 49 = some (.invokevirtual 72, [91, 1, 407, 0]) := by decide +kernel
theorem kc_168_52 : xe_code 168 52 = some (.ireturn, []) := by decide +kernel
theorem kc_168_53 : xe_code 168 53 = some (.aload_n 0, []) := by decide +kernel
theorem kc_168_54 : xe_code 168 54 = some (.getfield 42, [0, 4, 373]) := by decide +kernel
theorem kc_168_57 : xe_code 168 57 = some (.iload_n 1, []) := by decide +kernel
theorem kc_168_58 : xe_code 168 58 = some (.iload_n 2, []) := by decide +kernel
theorem kc_168_59 : xe_code 168 59 = some (.iload_n 3, []) := by decide +kernel
theorem kc_168_60 : xe_code 168 60 = some (.iload 4, []) := by decide +kernel
theorem kc_168_62 : xe_code 168 62 = some (.invokevirtual 262, [169, 4, 762, 2]) := by decide +kernel
theorem kc_168_65 : xe_code 168 65 = some (.ireturn, []) := by decide +kernel
theorem kc_169_0 : xe_code 169 0 = some (.iload_n 1, []) := by decide +kernel
theorem kc_169_1 : xe_code 169 1 = some (.ifCond .lt 9, [10]) := by decide +kernel
theorem kc_169_4 : xe_code 169 4 = some (.iload_n 1, []) := by decide +kernel
theorem kc_169_5 : xe_code 169 5 = some (.bipush 24, []) := by decide +kernel
theorem kc_169_7 : xe_code 169 7 = some (.if_icmp .lt 5, [12]) := by decide +kernel
theorem kc_169_10 : xe_code 169 10 = some (.iconst 2, []) := by decide +kernel
theorem kc_169_11 : xe_code 169 11 = some (.ireturn, []) := by decide +kernel
theorem kc_169_12 : xe_code 169 12 = some (.aload_n 0, []) := by decide +kernel
theorem kc_169_13 : xe_code 169 13 = some (.getfield 18, [2, 2, 295]) := by decide +kernel
theorem kc_169_16 : xe_code 169 16 = some (.iload_n 1, []) := by decide +kernel
theorem kc_169_17 : xe_code 169 17 = some (.iaload, []) := by decide +kernel
theorem kc_169_18 : xe_code 169 18 = some (.istore 5, []) := by decide +kernel
theorem kc_169_20 : xe_code 169 20 = some (.aload_n 0, []) := by decide +kernel
theorem kc_169_21 : xe_code 169 21 = some (.getfield 9, [2, 0, 293]) := by decide +kernel
theorem kc_169_24 : xe_code 169 24 = some (.iload_n 1, []) := by decide +kernel
theorem kc_169_25 : xe_code 169 25 = some (.iload_n 2, []) := by decide +kernel
theorem kc_169_26 : xe_code 169 26 = some (.iastore, []) := by decide +kernel
theorem kc_169_27 : xe_code 169 27 = some (.aload_n 0, []) := by decide +kernel
theorem kc_169_28 : xe_code 169 28 = some (.getfield 15, [2, 1, 294]) := by decide +kernel
theorem kc_169_31 : xe_code 169 31 = some (.iload_n 1, []) := by decide +kernel
theorem kc_169_32 : xe_code 169 32 = some (.iload_n 3, []) := by decide +kernel
theorem kc_169_33 : xe_code 169 33 = some (.iastore, []) := by decide +kernel
theorem kc_169_34 : xe_code 169 34 = some (.aload_n 0, []) := by decide +kernel
theorem kc_169_35 : xe_code 169 35 = some (.getfield 18, [2, 2, 295]) := by decide +kernel
theorem kc_169_38 : xe_code 169 38 = some (.iload_n 1, []) := by decide +kernel
theorem kc_169_39 : xe_code 169 39 = some (.iload 4, []) := by decide +kernel
theorem kc_169_41 : xe_code 169 41 = some (.iastore, []) := by decide +kernel
theorem kc_169_42 : xe_code 169 42 = some (.iload 5, []) := by decide +kernel
theorem kc_169_44 : xe_code 169 44 = some (.ireturn, []) := by decide +kernel
theorem kc_170_0 : xe_code 170 0 = some (.aload_n 0, []) := by decide +kernel
theorem kc_170_1 : xe_code 170 1 = some (.getfield 42, [0, 4, 373]) := by decide +kernel
theorem kc_170_4 : xe_code 170 4 = some (.invokevirtual 264, [171, 0, 770, 2]) := by decide +kernel
theorem kc_170_7 : xe_code 170 7 = some (.ireturn, []) := by decide +kernel
theorem kc_171_0 : xe_code 171 0 = some (.iconst 0, []) := by decide +kernel
theorem kc_171_1 : xe_code 171 1 = some (.istore_n 1, []) := by decide +kernel
theorem kc_171_2 : xe_code 171 2 = some (.iconst 0, []) := by decide +kernel
theorem kc_171_3 : xe_code 171 3 = some (.istore_n 2, []) := by decide +kernel
theorem kc_171_4 : xe_code 171 4 = some (.iload_n 2, []) := by decide +kernel
theorem kc_171_5 : xe_code 171 5 = some (.bipush 24, []) := by decide +kernel
theorem kc_171_7 : xe_code 171 7 = some (.if_icmp .ge 54, [61]) := by decide +kernel
theorem kc_171_10 : xe_code 171 10 = some (.iconst 0, []) := by decide +kernel
theorem kc_171_11 : xe_code 171 11 = some (.istore_n 3, []) := by decide +kernel
theorem kc_171_12 : xe_code 171 12 = some (.iload_n 3, []) := by decide +kernel
theorem kc_171_13 : xe_code 171 13 = some (.iload_n 2, []) := by decide +kernel
theorem kc_171_14 : xe_code 171 14 = some (.if_icmp .ge 41, [55]) := by decide +kernel
theorem kc_171_17 : xe_code 171 17 = some (.aload_n 0, []) := by decide +kernel
theorem kc_171_18 : xe_code 171 18 = some (.getfield 18, [2, 2, 295]) := by decide +kernel
theorem kc_171_21 : xe_code 171 21 = some (.iload_n 2, []) := by decide +kernel
theorem kc_171_22 : xe_code 171 22 = some (.iaload, []) := by decide +kernel
theorem kc_171_23 : xe_code 171 23 = some (.iconst 1, []) := by decide +kernel
theorem kc_171_24 : xe_code 171 24 = some (.if_icmp .ne 25, [49]) := by decide +kernel
theorem kc_171_27 : xe_code 171 27 = some (.aload_n 0, []) := by decide +kernel
theorem kc_171_28 : xe_code 171 28 = some (.getfield 18, [2, 2, 295]) := by decide +kernel
theorem kc_171_31 : xe_code 171 31 = some (.iload_n 3, []) := by decide +kernel
theorem kc_171_32 : xe_code 171 32 = some (.iaload, []) := by decide +kernel
theorem kc_171_33 : xe_code 171 33 = some (.iconst 1, []) := by decide +kernel
theorem kc_171_34 : xe_code 171 34 = some (.if_icmp .ne 15, [49]) := by decide +kernel
theorem kc_171_37 : xe_code 171 37 = some (.aload_n 0, []) := by decide +kernel
theorem kc_171_38 : xe_code 171 38 = some (.iload_n 2, []) := by decide +kernel
theorem kc_171_39 : xe_code 171 39 = some (.iload_n 3, []) := by decide +kernel
theorem kc_171_40 : xe_code 171 40 = some (.invokevirtual 30, [172, 2, 774, 2]) := by decide +kernel
theorem kc_171_43 : xe_code 171 43 = some (.ifCond .eq 6, [49]) := by decide +kernel
theorem kc_171_46 : xe_code 171 46 = some (.iinc 1 1, []) := by decide +kernel
theorem kc_171_49 : xe_code 171 49 = some (.iinc 3 1, []) := by decide +kernel
theorem kc_171_52 : xe_code 171 52 = some (.goto (-40), [12]) := by decide +kernel
theorem kc_171_55 : xe_code 171 55 = some (.iinc 2 1, []) := by decide +kernel
theorem kc_171_58 : xe_code 171 58 = some (.goto (-54), [4]) := by decide +kernel
theorem kc_171_61 : xe_code 171 61 = some (.iload_n 1, []) := by decide +kernel
theorem kc_171_62 : xe_code 171 62 = some (.ireturn, []) := by decide +kernel
theorem kc_172_0 : xe_code 172 0 = some (.aload_n 0, []) := by decide +kernel
theorem kc_172_1 : xe_code 172 1 = some (.getfield 9, [2, 0, 293]) := by decide +kernel
theorem kc_172_4 : xe_code 172 4 = some (.iload_n 1, []) := by decide +kernel
theorem kc_172_5 : xe_code 172 5 = some (.iaload, []) := by decide +kernel
theorem kc_172_6 : xe_code 172 6 = some (.aload_n 0, []) := by decide +kernel
theorem kc_172_7 : xe_code 172 7 = some (.getfield 9, [2, 0, 293]) := by decide +kernel
theorem kc_172_10 : xe_code 172 10 = some (.iload_n 2, []) := by decide +kernel
theorem kc_172_11 : xe_code 172 11 = some (.iaload, []) := by decide +kernel
theorem kc_172_12 : xe_code 172 12 = some (.isub, []) := by decide +kernel
theorem kc_172_13 : xe_code 172 13 = some (.invokestatic 47, [2, 1, 778, 0]) := by decide +kernel
theorem kc_172_16 : xe_code 172 16 = some (.istore_n 3, []) := by decide +kernel
theorem kc_172_17 : xe_code 172 17 = some (.aload_n 0, []) := by decide +kernel
theorem kc_172_18 : xe_code 172 18 = some (.getfield 15, [2, 1, 294]) := by decide +kernel
theorem kc_172_21 : xe_code 172 21 = some (.iload_n 1, []) := by decide +kernel
theorem kc_172_22 : xe_code 172 22 = some (.iaload, []) := by decide +kernel
theorem kc_172_23 : xe_code 172 23 = some (.aload_n 0, []) := by decide +kernel
theorem kc_172_24 : xe_code 172 24 = some (.getfield 15, [2, 1, 294]) := by decide +kernel
theorem kc_172_27 : xe_code 172 27 = some (.iload_n 2, []) := by decide +kernel
theorem kc_172_28 : xe_code 172 28 = some (.iaload, []) := by decide +kernel
theorem kc_172_29 : xe_code 172 29 = some (.isub, []) := by decide +kernel
theorem kc_172_30 : xe_code 172 30 = some (.invokestatic 47, [2, 1, 778, 0]) := by decide +kernel
theorem kc_172_33 : xe_code 172 33 = some (.istore 4, []) := by decide +kernel
theorem kc_172_35 : xe_code 172 35 = some (.iload_n 3, []) := by decide +kernel
theorem kc_172_36 : xe_code 172 36 = some (.iload 4, []) := by decide +kernel
theorem kc_172_38 : xe_code 172 38 = some (.iadd, []) := by decide +kernel
theorem kc_172_39 : xe_code 172 39 = some (.iconst 1, []) := by decide +kernel
theorem kc_172_40 : xe_code 172 40 = some (.if_icmp .ne 7, [47]) := by decide +kernel
theorem kc_172_43 : xe_code 172 43 = some (.iconst 1, []) := by decide +kernel
theorem kc_172_44 : xe_code 172 44 = some (.goto 4, [48]) := by decide +kernel
theorem kc_172_47 : xe_code 172 47 = some (.iconst 0, []) := by decide +kernel
theorem kc_172_48 : xe_code 172 48 = some (.ireturn, []) := by decide +kernel
theorem kc_173_0 : xe_code 173 0 = some (.iload_n 1, []) := by decide +kernel
theorem kc_173_1 : xe_code 173 1 = some (.ifCond .eq 15, [16]) := by decide +kernel
theorem kc_173_4 : xe_code 173 4 = some (.iload_n 1, []) := by decide +kernel
theorem kc_173_5 : xe_code 173 5 = some (.iconst 1, []) := by decide +kernel
theorem kc_173_6 : xe_code 173 6 = some (.if_icmp .eq 10, [16]) := by decide +kernel
theorem kc_173_9 : xe_code 173 9 = some (.aload_n 0, []) := by decide +kernel
theorem kc_173_10 : xe_code 173 10 = some (.bipush (-2), []) := by decide +kernel
theorem kc_173_12 : xe_code 173 12 = some (.invokevirtual 72, [91, 1, 407, 0]) := by decide +kernel
theorem kc_173_15 : xe_code 173 15 = some (.ireturn, []) := by decide +kernel
theorem kc_173_16 : xe_code 173 16 = some (.aload_n 0, []) := by decide +kernel
theorem kc_173_17 : xe_code 173 17 = some (.getfield 42, [0, 4, 373]) := by decide +kernel
theorem kc_173_20 : xe_code 173 20 = some (.invokevirtual 267, [174, 0, 783, 2]) := by decide +kernel
theorem kc_173_23 : xe_code 173 23 = some (.bipush 16, []) := by decide +kernel
theorem kc_173_25 : xe_code 173 25 = some (.if_icmp .le 10, [35]) := by decide +kernel
theorem kc_173_28 : xe_code 173 28 = some (.aload_n 0, []) := by decide +kernel
theorem kc_173_29 : xe_code 173 29 = some (.bipush (-6), []) := by decide +kernel
theorem kc_173_31 : xe_code 173 31 = some (.invokevirtual 72, [91, 1, 407, 0]) := by decide +kernel
theorem kc_173_34 : xe_code 173 34 = some (.ireturn, []) := by decide +kernel
theorem kc_173_35 : xe_code 173 35 = some (.aload_n 0, []) := by decide +kernel
theorem kc_173_36 : xe_code 173 36 = some (.getfield 42, [0, 4, 373]) := by decide +kernel
theorem kc_173_39 : xe_code 173 39 = some (.iload_n 1, []) := by decide +kernel
theorem kc_173_40 : xe_code 173 40 = some (.ifCond .ne 13, [53]) := by decide +kernel
theorem kc_173_43 : xe_code 173 43 = some (.aload_n 0, []) := by decide +kernel
theorem kc_173_44 : xe_code 173 44 = some (.getfield 42, [0, 4, 373]) := by decide +kernel
theorem kc_173_47 : xe_code 173 47 = some (.invokevirtual 264, [171, 0, 770, 2]) := by decide +kernel
theorem kc_173_50 : xe_code 173 50 = some (.goto 4, [54]) := by decide +kernel
theorem kc_173_53 : xe_code 173 53 = some (.iconst 0, []) := by decide +kernel
theorem kc_173_54 : xe_code 173 54 = some (.invokevirtual 270, [175, 1, 787, 2]) := by decide +kernel
theorem kc_173_57 : xe_code 173 57 = some (.ireturn, []) := by decide +kernel
theorem kc_174_0 : xe_code 174 0 = some (.iconst 0, []) := by decide +kernel
theorem kc_174_1 : xe_code 174 1 = some (.istore_n 1, []) := by decide +kernel
theorem kc_174_2 : xe_code 174 2 = some (.iconst 0, []) := by decide +kernel
theorem kc_174_3 : xe_code 174 3 = some (.istore_n 2, []) := by decide +kernel
theorem kc_174_4 : xe_code 174 4 = some (.iload_n 2, []) := by decide +kernel
theorem kc_174_5 : xe_code 174 5 = some (.bipush 24, []) := by decide +kernel
theorem kc_174_7 : xe_code 174 7 = some (.if_icmp .ge 27, [34]) := by decide +kernel
theorem kc_174_10 : xe_code 174 10 = some (.iload_n 1, []) := by decide +kernel
theorem kc_174_11 : xe_code 174 11 = some (.aload_n 0, []) := by decide +kernel
theorem kc_174_12 : xe_code 174 12 = some (.getfield 18, [2, 2, 295]) := by decide +kernel
theorem kc_174_15 : xe_code 174 15 = some (.iload_n 2, []) := by decide +kernel
theorem kc_174_16 : xe_code 174 16 = some (.iaload, []) := by decide +kernel
theorem kc_174_17 : xe_code 174 17 = some (.iconst 2, []) := by decide +kernel
theorem kc_174_18 : xe_code 174 18 = some (.if_icmp .ne 7, [25]) := by decide +kernel
theorem kc_174_21 : xe_code 174 21 = some (.iconst 0, []) := by decide +kernel
theorem kc_174_22 : xe_code 174 22 = some (.goto 4, [26]) := by decide +kernel
theorem kc_174_25 : xe_code 174 25 = some (.iconst 1, []) := by decide +kernel
theorem kc_174_26 : xe_code 174 26 = some (.iadd, []) := by decide +kernel
theorem kc_174_27 : xe_code 174 27 = some (.istore_n 1, []) := by decide +kernel
theorem kc_174_28 : xe_code 174 28 = some (.iinc 2 1, []) := by decide +kernel
theorem kc_174_31 : xe_code 174 31 = some (.goto (-27), [4]) := by decide +kernel
theorem kc_174_34 : xe_code 174 34 = some (.iload_n 1, []) := by decide +kernel
theorem kc_174_35 : xe_code 174 35 = some (.ireturn, []) := by decide +kernel
theorem kc_175_0 : xe_code 175 0 = some (.iconst 0, []) := by decide +kernel
theorem kc_175_1 : xe_code 175 1 = some (.istore_n 2, []) := by decide +kernel
theorem kc_175_2 : xe_code 175 2 = some (.iconst 0, []) := by decide +kernel
theorem kc_175_3 : xe_code 175 3 = some (.istore_n 3, []) := by decide +kernel
theorem kc_175_4 : xe_code 175 4 = some (.iconst 0, []) := by decide +kernel
theorem kc_175_5 : xe_code 175 5 = some (.istore 4, []) := by decide +kernel
theorem kc_175_7 : xe_code 175 7 = some (.iload 4, []) := by decide +kernel
theorem kc_175_9 : xe_code 175 9 = some (.bipush 24, []) := by decide +kernel
theorem kc_175_11 : xe_code 175 11 = some (.if_icmp .ge 51, [62]) := by decide +kernel
theorem kc_175_14 : xe_code 175 14 = some (.aload_n 0, []) := by decide +kernel
theorem kc_175_15 : xe_code 175 15 = some (.getfield 18, [2, 2, 295]) := by decide +kernel
theorem kc_175_18 : xe_code 175 18 = some (.iload 4, []) := by decide +kernel
theorem kc_175_20 : xe_code 175 20 = some (.iaload, []) := by decide +kernel
theorem kc_175_21 : xe_code 175 21 = some (.iconst 2, []) := by decide +kernel
theorem kc_175_22 : xe_code 175 22 = some (.if_icmp .eq 34, [56]) := by decide +kernel
theorem kc_175_25 : xe_code 175 25 = some (.iload_n 2, []) := by decide +kernel
theorem kc_175_26 : xe_code 175 26 = some (.bipush 16, []) := by decide +kernel
theorem kc_175_28 : xe_code 175 28 = some (.if_icmp .ge 28, [56]) := by decide +kernel
theorem kc_175_31 : xe_code 175 31 = some (.aload_n 0, []) := by decide +kernel
theorem kc_175_32 : xe_code 175 32 = some (.getfield 21, [2, 3, 296]) := by decide +kernel
theorem kc_175_35 : xe_code 175 35 = some (.iload_n 2, []) := by decide +kernel
theorem kc_175_36 : xe_code 175 36 = some (.aload_n 0, []) := by decide +kernel
theorem kc_175_37 : xe_code 175 37 = some (.iload 4, []) := by decide +kernel
theorem kc_175_39 : xe_code 175 39 = some (.invokevirtual 34, [176, 1, 791, 2]) := by decide +kernel
theorem kc_175_42 : xe_code 175 42 = some (.iastore, []) := by decide +kernel
theorem kc_175_43 : xe_code 175 43 = some (.iinc 2 1, []) := by decide +kernel
theorem kc_175_46 : xe_code 175 46 = some (.iload_n 3, []) := by decide +kernel
theorem kc_175_47 : xe_code 175 47 = some (.aload_n 0, []) := by decide +kernel
theorem kc_175_48 : xe_code 175 48 = some (.getfield 18, [2, 2, 295]) := by decide +kernel
theorem kc_175_51 : xe_code 175 51 = some (.iload 4, []) := by decide +kernel
theorem kc_175_53 : xe_code 175 53 = some (.iaload, []) := by decide +kernel
theorem kc_175_54 : xe_code 175 54 = some (.iadd, []) := by decide +kernel
theorem kc_175_55 : xe_code 175 55 = some (.istore_n 3, []) := by decide +kernel
theorem kc_175_56 : xe_code 175 56 = some (.iinc 4 1, []) := by decide +kernel
theorem kc_175_59 : xe_code 175 59 = some (.goto (-52), [7]) := by decide +kernel
theorem kc_175_62 : xe_code 175 62 = some (.aload_n 0, []) := by decide +kernel
theorem kc_175_63 : xe_code 175 63 = some (.iconst 0, []) := by decide +kernel
theorem kc_175_64 : xe_code 175 64 = some (.iload_n 2, []) := by decide +kernel
theorem kc_175_65 : xe_code 175 65 = some (.iload_n 3, []) := by decide +kernel
theorem kc_175_66 : xe_code 175 66 = some (.iconst 0, []) := by decide +kernel
theorem kc_175_67 : xe_code 175 67 = some (.iload_n 1, []) := by decide +kernel
theorem kc_175_68 : xe_code 175 68 = some (.invokevirtual 38, [177, 5, 795, 2]) := by decide +kernel
theorem kc_175_71 : xe_code 175 71 = some (.ireturn, []) := by decide +kernel
theorem kc_176_0 : xe_code 176 0 = some (.iconst 0, []) := by decide +kernel
theorem kc_176_1 : xe_code 176 1 = some (.istore_n 2, []) := by decide +kernel
theorem kc_176_2 : xe_code 176 2 = some (.iconst 0, []) := by decide +kernel
theorem kc_176_3 : xe_code 176 3 = some (.istore_n 3, []) := by decide +kernel
theorem kc_176_4 : xe_code 176 4 = some (.iconst 0, []) := by decide +kernel
theorem kc_176_5 : xe_code 176 5 = some (.istore 4, []) := by decide +kernel
theorem kc_176_7 : xe_code 176 7 = some (.iload 4, []) := by decide +kernel
theorem kc_176_9 : xe_code 176 9 = some (.iload_n 1, []) := by decide +kernel
theorem kc_176_10 : xe_code 176 10 = some (.if_icmp .ge 46, [56]) := by decide +kernel
theorem kc_176_13 : xe_code 176 13 = some (.iload 4, []) := by decide +kernel
theorem kc_176_15 : xe_code 176 15 = some (.bipush 24, []) := by decide +kernel
theorem kc_176_17 : xe_code 176 17 = some (.if_icmp .ge 39, [56]) := by decide +kernel
theorem kc_176_20 : xe_code 176 20 = some (.aload_n 0, []) := by decide +kernel
theorem kc_176_21 : xe_code 176 21 = some (.getfield 18, [2, 2, 295]) := by decide +kernel
theorem kc_176_24 : xe_code 176 24 = some (.iload 4, []) := by decide +kernel
theorem kc_176_26 : xe_code 176 26 = some (.iaload, []) := by decide +kernel
theorem kc_176_27 : xe_code 176 27 = some (.iconst 2, []) := by decide +kernel
theorem kc_176_28 : xe_code 176 28 = some (.if_icmp .eq 22, [50]) := by decide +kernel
theorem kc_176_31 : xe_code 176 31 = some (.aload_n 0, []) := by decide +kernel
theorem kc_176_32 : xe_code 176 32 = some (.iload 4, []) := by decide +kernel
theorem kc_176_34 : xe_code 176 34 = some (.iload_n 1, []) := by decide +kernel
theorem kc_176_35 : xe_code 176 35 = some (.invokevirtual 30, [172, 2, 774, 2]) := by decide +kernel
theorem kc_176_38 : xe_code 176 38 = some (.ifCond .eq 9, [47]) := by decide +kernel
theorem kc_176_41 : xe_code 176 41 = some (.iload_n 2, []) := by decide +kernel
theorem kc_176_42 : xe_code 176 42 = some (.iconst 1, []) := by decide +kernel
theorem kc_176_43 : xe_code 176 43 = some (.iload_n 3, []) := by decide +kernel
theorem kc_176_44 : xe_code 176 44 = some (.ishl, []) := by decide +kernel
theorem kc_176_45 : xe_code 176 45 = some (.ior, []) := by decide +kernel
theorem kc_176_46 : xe_code 176 46 = some (.istore_n 2, []) := by decide +kernel
theorem kc_176_47 : xe_code 176 47 = some (.iinc 3 1, []) := by decide +kernel
theorem kc_176_50 : xe_code 176 50 = some (.iinc 4 1, []) := by decide +kernel
theorem kc_176_53 : xe_code 176 53 = some (.goto (-46), [7]) := by decide +kernel
theorem kc_176_56 : xe_code 176 56 = some (.iload_n 2, []) := by decide +kernel
theorem kc_176_57 : xe_code 176 57 = some (.ireturn, []) := by decide +kernel
theorem kc_177_0 : xe_code 177 0 = some (.iload_n 3, []) := by decide +kernel
theorem kc_177_1 : xe_code 177 1 = some (.ifCond .ne 14, [15]) := by decide +kernel
theorem kc_177_4 : xe_code 177 4 = some (.iload 5, []) := by decide +kernel
theorem kc_177_6 : xe_code 177 6 = some (.ifCond .gt 7, [13]) := by decide +kernel
theorem kc_177_9 : xe_code 177 9 = some (.iconst 1, []) := by decide +kernel
theorem kc_177_10 : xe_code 177 10 = some (.goto 4, [14]) := by decide +kernel
theorem kc_177_13 : xe_code 177 13 = some (.iconst 0, []) := by decide +kernel
theorem kc_177_14 : xe_code 177 14 = some (.ireturn, []) := by decide +kernel
theorem kc_177_15 : xe_code 177 15 = some (.iconst 0, []) := by decide +kernel
theorem kc_177_16 : xe_code 177 16 = some (.istore 6, []) := by decide +kernel
theorem kc_177_18 : xe_code 177 18 = some (.iload_n 1, []) := by decide +kernel
theorem kc_177_19 : xe_code 177 19 = some (.istore 7, []) := by decide +kernel
theorem kc_177_21 : xe_code 177 21 = some (.iload 7, []) := by decide +kernel
theorem kc_177_23 : xe_code 177 23 = some (.iload_n 2, []) := by decide +kernel
theorem kc_177_24 : xe_code 177 24 = some (.iload_n 3, []) := by decide +kernel
theorem kc_177_25 : xe_code 177 25 = some (.isub, []) := by decide +kernel
theorem kc_177_26 : xe_code 177 26 = some (.if_icmp .gt 60, [86]) := by decide +kernel
theorem kc_177_29 : xe_code 177 29 = some (.iload 7, []) := by decide +kernel
theorem kc_177_31 : xe_code 177 31 = some (.bipush 16, []) := by decide +kernel
theorem kc_177_33 : xe_code 177 33 = some (.if_icmp .ge 53, [86]) := by decide +kernel
theorem kc_177_36 : xe_code 177 36 = some (.aload_n 0, []) := by decide +kernel
theorem kc_177_37 : xe_code 177 37 = some (.getfield 21, [2, 3, 296]) := by decide +kernel
theorem kc_177_40 : xe_code 177 40 = some (.iload 7, []) := by decide +kernel
theorem kc_177_42 : xe_code 177 42 = some (.iaload, []) := by decide +kernel
theorem kc_177_43 : xe_code 177 43 = some (.iload 4, []) := by decide +kernel
theorem kc_177_45 : xe_code 177 45 = some (.iand, []) := by decide +kernel
theorem kc_177_46 : xe_code 177 46 = some (.invokestatic 42, [4, 1, 799, 0]) := by decide +kernel
theorem kc_177_49 : xe_code 177 49 = some (.istore 8, []) := by decide +kernel
theorem kc_177_51 : xe_code 177 51 = some (.iload 6, []) := by decide +kernel
theorem kc_177_53 : xe_code 177 53 = some (.aload_n 0, []) := by decide +kernel
theorem kc_177_54 : xe_code 177 54 = some (.iload 7, []) := by decide +kernel
theorem kc_177_56 : xe_code 177 56 = some (.iconst 1, []) := by decide +kernel
theorem kc_177_57 : xe_code 177 57 = some (.iadd, []) := by decide +kernel
theorem kc_177_58 : xe_code 177 58 = some (.iload_n 2, []) := by decide +kernel
theorem kc_177_59 : xe_code 177 59 = some (.iload_n 3, []) := by decide +kernel
theorem kc_177_60 : xe_code 177 60 = some (.iconst 1, []) := by decide +kernel
theorem kc_177_61 : xe_code 177 61 = some (.isub, []) := by decide +kernel
theorem kc_177_62 : xe_code 177 62 = some (.iload 4, []) := by decide +kernel
theorem kc_177_64 : xe_code 177 64 = some (.iconst 1, []) := by decide +kernel
theorem kc_177_65 : xe_code 177 65 = some (.iload 7, []) := by decide +kernel
theorem kc_177_67 : xe_code 177 67 = some (.ishl, []) := by decide +kernel
theorem kc_177_68 : xe_code 177 68 = some (.ior, []) := by decide +kernel
theorem kc_177_69 : xe_code 177 69 = some (.iload 5, []) := by decide +kernel
theorem kc_177_71 : xe_code 177 71 = some (.iload 8, []) := by decide +kernel
theorem kc_177_73 : xe_code 177 73 = some (.isub, []) := by decide +kernel
theorem kc_177_74 : xe_code 177 74 = some (.invokevirtual 38, [177, 5, 795, 2]) := by decide +kernel
theorem kc_177_77 : xe_code 177 77 = some (.iadd, []) := by decide +kernel
theorem kc_177_78 : xe_code 177 78 = some (.istore 6, []) := by decide +kernel
theorem kc_177_80 : xe_code 177 80 = some (.iinc 7 1, []) := by decide +kernel
theorem kc_177_83 : xe_code 177 83 = some (.goto (-62), [21]) := by decide +kernel
theorem kc_177_86 : xe_code 177 86 = some (.iload 6, []) := by decide +kernel
theorem kc_177_88 : xe_code 177 88 = some (.ireturn, []) := by decide +kernel
theorem kc_178_0 : xe_code 178 0 = some (.iload_n 2, []) := by decide +kernel
theorem kc_178_1 : xe_code 178 1 = some (.invokestatic 171, [118, 1, 529, 0]) := by decide +kernel
theorem kc_178_4 : xe_code 178 4 = some (.ifCond .eq 12, [16]) := by decide +kernel
theorem kc_178_7 : xe_code 178 7 = some (.iload_n 3, []) := by decide +kernel
theorem kc_178_8 : xe_code 178 8 = some (.ifCond .lt 8, [16]) := by decide +kernel
theorem kc_178_11 : xe_code 178 11 = some (.iload_n 3, []) := by decide +kernel
theorem kc_178_12 : xe_code 178 12 = some (.iconst 1, []) := by decide +kernel
theorem kc_178_13 : xe_code 178 13 = some (.if_icmp .le 10, [23]) := by decide +kernel
theorem kc_178_16 : xe_code 178 16 = some (.aload_n 0, []) := by decide +kernel
theorem kc_178_17 : xe_code 178 17 = some (.bipush (-2), []) := by decide +kernel
theorem kc_178_19 : xe_code 178 19 = some (.invokevirtual 72, [91, 1, 407, 0]) := by decide +kernel
theorem kc_178_22 : xe_code 178 22 = some (.ireturn, []) := by decide +kernel
theorem kc_178_23 : xe_code 178 23 = some (.iload_n 1, []) := by decide +kernel
theorem kc_178_24 : xe_code 178 24 = some (.aload_n 0, []) := by decide +kernel
theorem kc_178_25 : xe_code 178 25 = some (.getfield 148, [0, 9, 378]) := by decide +kernel
theorem kc_178_28 : xe_code 178 28 = some (.bipush 24, []) := by decide +kernel
theorem kc_178_30 : xe_code 178 30 = some (.idiv, []) := by decide +kernel
theorem kc_178_31 : xe_code 178 31 = some (.if_icmp .lt 8, [39]) := by decide +kernel
theorem kc_178_34 : xe_code 178 34 = some (.iload 4, []) := by decide +kernel
theorem kc_178_36 : xe_code 178 36 = some (.ifCond .ge 10, [46]) := by decide +kernel
theorem kc_178_39 : xe_code 178 39 = some (.aload_n 0, []) := by decide +kernel
theorem kc_178_40 : xe_code 178 40 = some (.bipush (-4), []) := by decide +kernel
theorem kc_178_42 : xe_code 178 42 = some (.invokevirtual 72, [91, 1, 407, 0]) := by decide +kernel
theorem kc_178_45 : xe_code 178 45 = some (.ireturn, []) := by decide +kernel
theorem kc_178_46 : xe_code 178 46 = some (.iload_n 1, []) := by decide +kernel
theorem kc_178_47 : xe_code 178 47 = some (.bipush 25, []) := by decide +kernel
theorem kc_178_49 : xe_code 178 49 = some (.if_icmp .gt 22, [71]) := by decide +kernel
theorem kc_178_52 : xe_code 178 52 = some (.iload 4, []) := by decide +kernel
theorem kc_178_54 : xe_code 178 54 = some (.bipush 99, []) := by decide +kernel
theorem kc_178_56 : xe_code 178 56 = some (.if_icmp .gt 15, [71]) := by decide +kernel
theorem kc_178_59 : xe_code 178 59 = some (.aload_n 0, []) := by decide +kernel
theorem kc_178_60 : xe_code 178 60 = some (.getfield 49, [0, 5, 374]) := by decide +kernel
theorem kc_178_63 : xe_code 178 63 = some (.getfield 273, [5, 8, 323]) := by decide +kernel
theorem kc_178_66 : xe_code 178 66 = some (.bipush 12, []) := by decide +kernel
theorem kc_178_68 : xe_code 178 68 = some (.if_icmp .lt 10, [78]) := by decide +kernel
theorem kc_178_71 : xe_code 178 71 = some (.aload_n 0, []) := by decide +kernel
theorem kc_178_72 : xe_code 178 72 = some (.bipush (-6), []) := by decide +kernel
theorem kc_178_74 : xe_code 178 74 = some (.invokevirtual 72, [91, 1, 407, 0]) := by decide +kernel
theorem kc_178_77 : xe_code 178 77 = some (.ireturn, []) := by decide +kernel
theorem kc_178_78 : xe_code 178 78 = some (.aload_n 0, []) := by decide +kernel
theorem kc_178_79 : xe_code 178 79 = some (.getfield 49, [0, 5, 374]) := by decide +kernel
theorem kc_178_82 : xe_code 178 82 = some (.iload_n 1, []) := by decide +kernel
theorem kc_178_83 : xe_code 178 83 = some (.iload_n 2, []) := by decide +kernel
theorem kc_178_84 : xe_code 178 84 = some (.iload_n 3, []) := by decide +kernel
theorem kc_178_85 : xe_code 178 85 = some (.iload 4, []) := by decide +kernel
theorem kc_178_87 : xe_code 178 87 = some (.invokevirtual 274, [179, 4, 804, 5]) := by decide +kernel
theorem kc_178_90 : xe_code 178 90 = some (.ireturn, []) := by decide +kernel
theorem kc_179_0 : xe_code 179 0 = some (.aload_n 0, []) := by decide +kernel
theorem kc_179_1 : xe_code 179 1 = some (.getfield 39, [5, 8, 322]) := by decide +kernel
theorem kc_179_4 : xe_code 179 4 = some (.bipush 12, []) := by decide +kernel
theorem kc_179_6 : xe_code 179 6 = some (.if_icmp .lt 6, [12]) := by decide +kernel
theorem kc_179_9 : xe_code 179 9 = some (.bipush (-9), []) := by decide +kernel
theorem kc_179_11 : xe_code 179 11 = some (.ireturn, []) := by decide +kernel
theorem kc_179_12 : xe_code 179 12 = some (.aload_n 0, []) := by decide +kernel
theorem kc_179_13 : xe_code 179 13 = some (.getfield 9, [5, 0, 313]) := by decide +kernel
theorem kc_179_16 : xe_code 179 16 = some (.aload_n 0, []) := by decide +kernel
theorem kc_179_17 : xe_code 179 17 = some (.getfield 39, [5, 8, 322]) := by decide +kernel
theorem kc_179_20 : xe_code 179 20 = some (.iload_n 1, []) := by decide +kernel
theorem kc_179_21 : xe_code 179 21 = some (.iastore, []) := by decide +kernel
theorem kc_179_22 : xe_code 179 22 = some (.aload_n 0, []) := by decide +kernel
theorem kc_179_23 : xe_code 179 23 = some (.getfield 15, [5, 1, 314]) := by decide +kernel
theorem kc_179_26 : xe_code 179 26 = some (.aload_n 0, []) := by decide +kernel
theorem kc_179_27 : xe_code 179 27 = some (.getfield 39, [5, 8, 322]) := by decide +kernel
theorem kc_179_30 : xe_code 179 30 = some (.iload_n 2, []) := by decide +kernel
theorem kc_179_31 : xe_code 179 31 = some (.iastore, []) := by decide +kernel
theorem kc_179_32 : xe_code 179 32 = some (.aload_n 0, []) := by decide +kernel
theorem kc_179_33 : xe_code 179 33 = some (.getfield 18, [5, 2, 315]) := by decide +kernel
theorem kc_179_36 : xe_code 179 36 = some (.aload_n 0, []) := by decide +kernel
theorem kc_179_37 : xe_code 179 37 = some (.getfield 39, [5, 8, 322]) := by decide +kernel
theorem kc_179_40 : xe_code 179 40 = some (.iload_n 3, []) := by decide +kernel
theorem kc_179_41 : xe_code 179 41 = some (.iastore, []) := by decide +kernel
theorem kc_179_42 : xe_code 179 42 = some (.aload_n 0, []) := by decide +kernel
theorem kc_179_43 : xe_code 179 43 = some (.getfield 21, [5, 3, 316]) := by decide +kernel
theorem kc_179_46 : xe_code 179 46 = some (.aload_n 0, []) := by decide +kernel
theorem kc_179_47 : xe_code 179 47 = some (.getfield 39, [5, 8, 322]) := by decide +kernel
theorem kc_179_50 : xe_code 179 50 = some (.iload 4, []) := by decide +kernel
theorem kc_179_52 : xe_code 179 52 = some (.iastore, []) := by decide +kernel
theorem kc_179_53 : xe_code 179 53 = some (.aload_n 0, []) := by decide +kernel
theorem kc_179_54 : xe_code 179 54 = some (.dup, []) := by decide +kernel
theorem kc_179_55 : xe_code 179 55 = some (.getfield 39, [5, 8, 322]) := by decide +kernel
theorem kc_179_58 : xe_code 179 58 = some (.iconst 1, []) := by decide +kernel
theorem kc_179_59 : xe_code 179 59 = some (.iadd, []) := by decide +kernel
theorem kc_179_60 : xe_code 179 60 = some (.putfield 39, [5, 8, 322]) := by decide +kernel
theorem kc_179_63 : xe_code 179 63 = some (.aload_n 0, []) := by decide +kernel
theorem kc_179_64 : xe_code 179 64 = some (.getfield 39, [5, 8, 322]) := by decide +kernel
theorem kc_179_67 : xe_code 179 67 = some (.iconst 1, []) := by decide +kernel
theorem kc_179_68 : xe_code 179 68 = some (.isub, []) := by decide +kernel
theorem kc_179_69 : xe_code 179 69 = some (.ireturn, []) := by decide +kernel
theorem kc_180_0 : xe_code 180 0 = some (.aload_n 0, []) := by decide +kernel
theorem kc_180_1 : xe_code 180 1 = some (.getfield 49, [0, 5, 374]) := by decide +kernel
theorem kc_180_4 : xe_code 180 4 = some (.getfield 275, [5, 7, 321]) := by decide +kernel
theorem kc_180_7 : xe_code 180 7 = some (.iload_n 1, []) := by decide +kernel
theorem kc_180_8 : xe_code 180 8 = some (.if_icmp .ne 5, [13]) := by decide +kernel
theorem kc_180_11 : xe_code 180 11 = some (.iconst 0, []) := by decide +kernel
theorem kc_180_12 : xe_code 180 12 = some (.ireturn, []) := by decide +kernel
theorem kc_180_13 : xe_code 180 13 = some (.aload_n 0, []) := by decide +kernel
theorem kc_180_14 : xe_code 180 14 = some (.getfield 49, [0, 5, 374]) := by decide +kernel
theorem kc_180_17 : xe_code 180 17 = some (.iload_n 1, []) := by decide +kernel
theorem kc_180_18 : xe_code 180 18 = some (.putfield 275, [5, 7, 321]) := by decide +kernel
theorem kc_180_21 : xe_code 180 21 = some (.iconst 1, []) := by decide +kernel
theorem kc_180_22 : xe_code 180 22 = some (.ireturn, []) := by decide +kernel
theorem kc_181_0 : xe_code 181 0 = some (.iload_n 2, []) := by decide +kernel
theorem kc_181_1 : xe_code 181 1 = some (.invokestatic 171, [118, 1, 529, 0]) := by decide +kernel
theorem kc_181_4 : xe_code 181 4 = some (.ifCond .ne 10, [14]) := by decide +kernel
theorem kc_181_7 : xe_code 181 7 = some (.aload_n 0, []) := by decide +kernel
theorem kc_181_8 : xe_code 181 8 = some (.bipush (-2), []) := by decide +kernel
theorem kc_181_10 : xe_code 181 10 = some (.invokevirtual 72, [91, 1, 407, 0]) := by decide +kernel
theorem kc_181_13 : xe_code 181 13 = some (.ireturn, []) := by decide +kernel
theorem kc_181_14 : xe_code 181 14 = some (.aload_n 0, []) := by decide +kernel
theorem kc_181_15 : xe_code 181 15 = some (.getfield 49, [0, 5, 374]) := by decide +kernel
theorem kc_181_18 : xe_code 181 18 = some (.iload_n 1, []) := by decide +kernel
theorem kc_181_19 : xe_code 181 19 = some (.iload_n 2, []) := by decide +kernel
theorem kc_181_20 : xe_code 181 20 = some (.iload_n 3, []) := by decide +kernel
theorem kc_181_21 : xe_code 181 21 = some (.aload_n 0, []) := by decide +kernel
theorem kc_181_22 : xe_code 181 22 = some (.getfield 148, [0, 9, 378]) := by decide +kernel
theorem kc_181_25 : xe_code 181 25 = some (.invokevirtual 278, [182, 4, 816, 5]) := by decide +kernel
theorem kc_181_28 : xe_code 181 28 = some (.iconst 1, []) := by decide +kernel
theorem kc_181_29 : xe_code 181 29 = some (.ireturn, []) := by decide +kernel
theorem kc_182_0 : xe_code 182 0 = some (.iload_n 2, []) := by decide +kernel
theorem kc_182_1 : xe_code 182 1 = some (.invokestatic 43, [118, 1, 820, 0]) := by decide +kernel
theorem kc_182_4 : xe_code 182 4 = some (.ifCond .ne 4, [8]) := by decide +kernel
theorem kc_182_7 : xe_code 182 7 = some (.return_, []) := by decide +kernel
