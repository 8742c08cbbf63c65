theorem kc_38_36 : xe_code 38 36 = some (.iload 5, []) := by decide +kernel
theorem kc_38_38 : xe_code 38 38 = some (.aload_n 0, []) := by decide +kernel
theorem kc_38_39 : xe_code 38 39 = some (.getfield 72, [12, 24, 971]) := by decide +kernel
theorem kc_38_42 : xe_code 38 42 = some (.iload 6, []) := by decide +kernel
theorem kc_38_44 : xe_code 38 44 = some (.iaload, []) := by decide +kernel
theorem kc_38_45 : xe_code 38 45 = some (.iconst 3, []) := by decide +kernel
theorem kc_38_46 : xe_code 38 46 = some (.if_icmp .ne 37, [83]) := by decide +kernel
theorem kc_38_49 : xe_code 38 49 = some (.aload_n 0, []) := by decide +kernel
theorem kc_38_50 : xe_code 38 50 = some (.getfield 75, [12, 25, 972]) := by decide +kernel
theorem kc_38_53 : xe_code 38 53 = some (.iload 6, []) := by decide +kernel
theorem kc_38_55 : xe_code 38 55 = some (.iaload, []) := by decide +kernel
theorem kc_38_56 : xe_code 38 56 = some (.iload_n 1, []) := by decide +kernel
theorem kc_38_57 : xe_code 38 57 = some (.if_icmp .ne 26, [83]) := by decide +kernel
theorem kc_38_60 : xe_code 38 60 = some (.aload_n 0, []) := by decide +kernel
theorem kc_38_61 : xe_code 38 61 = some (.iload 6, []) := by decide +kernel
theorem kc_38_63 : xe_code 38 63 = some (.iload_n 2, []) := by decide +kernel
theorem kc_38_64 : xe_code 38 64 = some (.iload_n 3, []) := by decide +kernel
theorem kc_38_65 : xe_code 38 65 = some (.iload 4, []) := by decide +kernel
theorem kc_38_67 : xe_code 38 67 = some (.invokevirtual 228, [39, 4, 1259, 12]) := by decide +kernel
theorem kc_38_70 : xe_code 38 70 = some (.ifCond .eq 13, [83]) := by decide +kernel
theorem kc_38_73 : xe_code 38 73 = some (.aload_n 0, []) := by decide +kernel
theorem kc_38_74 : xe_code 38 74 = some (.getfield 78, [12, 26, 973]) := by decide +kernel
theorem kc_38_77 : xe_code 38 77 = some (.iload 6, []) := by decide +kernel
theorem kc_38_79 : xe_code 38 79 = some (.iaload, []) := by decide +kernel
theorem kc_38_80 : xe_code 38 80 = some (.goto 4, [84]) := by decide +kernel
theorem kc_38_83 : xe_code 38 83 = some (.iconst 0, []) := by decide +kernel
theorem kc_38_84 : xe_code 38 84 = some (.iadd, []) := by decide +kernel
theorem kc_38_85 : xe_code 38 85 = some (.istore 5, []) := by decide +kernel
theorem kc_38_87 : xe_code 38 87 = some (.iinc 6 1, []) := by decide +kernel
theorem kc_38_90 : xe_code 38 90 = some (.goto (-63), [27]) := by decide +kernel
theorem kc_38_93 : xe_code 38 93 = some (.iload 5, []) := by decide +kernel
theorem kc_38_95 : xe_code 38 95 = some (.invokestatic 232, [40, 1, 1263, 12]) := by decide +kernel
theorem kc_38_98 : xe_code 38 98 = some (.istore 5, []) := by decide +kernel
theorem kc_38_100 : xe_code 38 100 = some (.aload_n 0, []) := by decide +kernel
theorem kc_38_101 : xe_code 38 101 = some (.getfield 7, [12, 2, 949]) := by decide +kernel
theorem kc_38_104 : xe_code 38 104 = some (.iload_n 1, []) := by decide +kernel
theorem kc_38_105 : xe_code 38 105 = some (.iaload, []) := by decide +kernel
theorem kc_38_106 : xe_code 38 106 = some (.aload_n 0, []) := by decide +kernel
theorem kc_38_107 : xe_code 38 107 = some (.getfield 235, [12, 32, 979]) := by decide +kernel
theorem kc_38_110 : xe_code 38 110 = some (.invokestatic 210, [23, 1, 1197, 12]) := by decide +kernel
theorem kc_38_113 : xe_code 38 113 = some (.imul, []) := by decide +kernel
theorem kc_38_114 : xe_code 38 114 = some (.iconst 2, []) := by decide +kernel
theorem kc_38_115 : xe_code 38 115 = some (.idiv, []) := by decide +kernel
theorem kc_38_116 : xe_code 38 116 = some (.istore 6, []) := by decide +kernel
theorem kc_38_118 : xe_code 38 118 = some (.iload 5, []) := by decide +kernel
theorem kc_38_120 : xe_code 38 120 = some (.iload 5, []) := by decide +kernel
theorem kc_38_122 : xe_code 38 122 = some (.iload 6, []) := by decide +kernel
theorem kc_38_124 : xe_code 38 124 = some (.isub, []) := by decide +kernel
theorem kc_38_125 : xe_code 38 125 = some (.aload_n 0, []) := by decide +kernel
theorem kc_38_126 : xe_code 38 126 = some (.getfield 16, [12, 4, 951]) := by decide +kernel
theorem kc_38_129 : xe_code 38 129 = some (.iload_n 1, []) := by decide +kernel
theorem kc_38_130 : xe_code 38 130 = some (.iaload, []) := by decide +kernel
theorem kc_38_131 : xe_code 38 131 = some (.aload_n 0, []) := by decide +kernel
theorem kc_38_132 : xe_code 38 132 = some (.getfield 22, [12, 6, 953]) := by decide +kernel
theorem kc_38_135 : xe_code 38 135 = some (.iload_n 1, []) := by decide +kernel
theorem kc_38_136 : xe_code 38 136 = some (.iaload, []) := by decide +kernel
theorem kc_38_137 : xe_code 38 137 = some (.iconst 1, []) := by decide +kernel
theorem kc_38_138 : xe_code 38 138 = some (.if_icmp .ne 12, [150]) := by decide +kernel
theorem kc_38_141 : xe_code 38 141 = some (.aload_n 0, []) := by decide +kernel
theorem kc_38_142 : xe_code 38 142 = some (.getfield 19, [12, 5, 952]) := by decide +kernel
theorem kc_38_145 : xe_code 38 145 = some (.iload_n 1, []) := by decide +kernel
theorem kc_38_146 : xe_code 38 146 = some (.iaload, []) := by decide +kernel
theorem kc_38_147 : xe_code 38 147 = some (.goto 4, [151]) := by decide +kernel
theorem kc_38_150 : xe_code 38 150 = some (.iconst 0, []) := by decide +kernel
theorem kc_38_151 : xe_code 38 151 = some (.iadd, []) := by decide +kernel
theorem kc_38_152 : xe_code 38 152 = some (.imul, []) := by decide +kernel
theorem kc_38_153 : xe_code 38 153 = some (.bipush 100, []) := by decide +kernel
theorem kc_38_155 : xe_code 38 155 = some (.idiv, []) := by decide +kernel
theorem kc_38_156 : xe_code 38 156 = some (.isub, []) := by decide +kernel
theorem kc_38_157 : xe_code 38 157 = some (.invokestatic 232, [40, 1, 1263, 12]) := by decide +kernel
theorem kc_38_160 : xe_code 38 160 = some (.istore 5, []) := by decide +kernel
theorem kc_38_162 : xe_code 38 162 = some (.aload_n 0, []) := by decide +kernel
theorem kc_38_163 : xe_code 38 163 = some (.getfield 7, [12, 2, 949]) := by decide +kernel
theorem kc_38_166 : xe_code 38 166 = some (.iload_n 1, []) := by decide +kernel
theorem kc_38_167 : xe_code 38 167 = some (.iaload, []) := by decide +kernel
theorem kc_38_168 : xe_code 38 168 = some (.aload_n 0, []) := by decide +kernel
theorem kc_38_169 : xe_code 38 169 = some (.getfield 13, [12, 3, 950]) := by decide +kernel
theorem kc_38_172 : xe_code 38 172 = some (.iload_n 1, []) := by decide +kernel
theorem kc_38_173 : xe_code 38 173 = some (.iaload, []) := by decide +kernel
theorem kc_38_174 : xe_code 38 174 = some (.invokestatic 210, [23, 1, 1197, 12]) := by decide +kernel
theorem kc_38_177 : xe_code 38 177 = some (.imul, []) := by decide +kernel
theorem kc_38_178 : xe_code 38 178 = some (.istore 7, []) := by decide +kernel
theorem kc_38_180 : xe_code 38 180 = some (.iload 5, []) := by decide +kernel
theorem kc_38_182 : xe_code 38 182 = some (.iload 7, []) := by decide +kernel
theorem kc_38_184 : xe_code 38 184 = some (.if_icmp .le 11, [195]) := by decide +kernel
theorem kc_38_187 : xe_code 38 187 = some (.iload 5, []) := by decide +kernel
theorem kc_38_189 : xe_code 38 189 = some (.iload 7, []) := by decide +kernel
theorem kc_38_191 : xe_code 38 191 = some (.isub, []) := by decide +kernel
theorem kc_38_192 : xe_code 38 192 = some (.goto 4, [196]) := by decide +kernel
theorem kc_38_195 : xe_code 38 195 = some (.iconst 0, []) := by decide +kernel
theorem kc_38_196 : xe_code 38 196 = some (.istore 8, []) := by decide +kernel
theorem kc_38_198 : xe_code 38 198 = some (.aload_n 0, []) := by decide +kernel
theorem kc_38_199 : xe_code 38 199 = some (.getfield 90, [12, 30, 977]) := by decide +kernel
theorem kc_38_202 : xe_code 38 202 = some (.iload_n 1, []) := by decide +kernel
theorem kc_38_203 : xe_code 38 203 = some (.iload 5, []) := by decide +kernel
theorem kc_38_205 : xe_code 38 205 = some (.iload 8, []) := by decide +kernel
theorem kc_38_207 : xe_code 38 207 = some (.isub, []) := by decide +kernel
theorem kc_38_208 : xe_code 38 208 = some (.iastore, []) := by decide +kernel
theorem kc_38_209 : xe_code 38 209 = some (.iload 8, []) := by decide +kernel
theorem kc_38_211 : xe_code 38 211 = some (.ifCond .le 10, [221]) := by decide +kernel
theorem kc_38_214 : xe_code 38 214 = some (.aload_n 0, []) := by decide +kernel
theorem kc_38_215 : xe_code 38 215 = some (.iload_n 1, []) := by decide +kernel
theorem kc_38_216 : xe_code 38 216 = some (.iload 8, []) := by decide +kernel
theorem kc_38_218 : xe_code 38 218 = some (.invokevirtual 238, [41, 2, 1266, 12]) := by decide +kernel
theorem kc_38_221 : xe_code 38 221 = some (.return_, []) := by decide +kernel
theorem kc_39_0 : xe_code 39 0 = some (.iload_n 3, []) := by decide +kernel
theorem kc_39_1 : xe_code 39 1 = some (.ifCond .eq 15, [16]) := by decide +kernel
theorem kc_39_4 : xe_code 39 4 = some (.aload_n 0, []) := by decide +kernel
theorem kc_39_5 : xe_code 39 5 = some (.getfield 84, [12, 28, 975]) := by decide +kernel
theorem kc_39_8 : xe_code 39 8 = some (.iload_n 1, []) := by decide +kernel
theorem kc_39_9 : xe_code 39 9 = some (.baload, []) := by decide +kernel
theorem kc_39_10 : xe_code 39 10 = some (.ifCond .eq 30, [40]) := by decide +kernel
theorem kc_39_13 : xe_code 39 13 = some (.goto 12, [25]) := by decide +kernel
theorem kc_39_16 : xe_code 39 16 = some (.iload_n 2, []) := by decide +kernel
theorem kc_39_17 : xe_code 39 17 = some (.iload_n 1, []) := by decide +kernel
theorem kc_39_18 : xe_code 39 18 = some (.ishr, []) := by decide +kernel
theorem kc_39_19 : xe_code 39 19 = some (.iconst 1, []) := by decide +kernel
theorem kc_39_20 : xe_code 39 20 = some (.iand, []) := by decide +kernel
theorem kc_39_21 : xe_code 39 21 = some (.iconst 1, []) := by decide +kernel
theorem kc_39_22 : xe_code 39 22 = some (.if_icmp .ne 18, [40]) := by decide +kernel
theorem kc_39_25 : xe_code 39 25 = some (.aload_n 0, []) := by decide +kernel
theorem kc_39_26 : xe_code 39 26 = some (.getfield 81, [12, 27, 974]) := by decide +kernel
theorem kc_39_29 : xe_code 39 29 = some (.iload_n 1, []) := by decide +kernel
theorem kc_39_30 : xe_code 39 30 = some (.iaload, []) := by decide +kernel
theorem kc_39_31 : xe_code 39 31 = some (.iload 4, []) := by decide +kernel
theorem kc_39_33 : xe_code 39 33 = some (.if_icmp .gt 7, [40]) := by decide +kernel
theorem kc_39_36 : xe_code 39 36 = some (.iconst 1, []) := by decide +kernel
theorem kc_39_37 : xe_code 39 37 = some (.goto 4, [41]) := by decide +kernel
theorem kc_39_40 : xe_code 39 40 = some (.iconst 0, []) := by decide +kernel
theorem kc_39_41 : xe_code 39 41 = some (.ireturn, []) := by decide +kernel
theorem kc_40_0 : xe_code 40 0 = some (.iload_n 0, []) := by decide +kernel
theorem kc_40_1 : xe_code 40 1 = some (.ifCond .ge 7, [8]) := by decide +kernel
theorem kc_40_4 : xe_code 40 4 = some (.iconst 0, []) := by decide +kernel
theorem kc_40_5 : xe_code 40 5 = some (.goto 15, [20]) := by decide +kernel
theorem kc_40_8 : xe_code 40 8 = some (.iload_n 0, []) := by decide +kernel
theorem kc_40_9 : xe_code 40 9 = some (.ldc 192, [99999, 1159]) := by decide +kernel
theorem kc_40_11 : xe_code 40 11 = some (.if_icmp .le 8, [19]) := by decide +kernel
theorem kc_40_14 : xe_code 40 14 = some (.ldc 192, [99999, 1159]) := by decide +kernel
theorem kc_40_16 : xe_code 40 16 = some (.goto 4, [20]) := by decide +kernel
theorem kc_40_19 : xe_code 40 19 = some (.iload_n 0, []) := by decide +kernel
theorem kc_40_20 : xe_code 40 20 = some (.ireturn, []) := by decide +kernel
theorem kc_41_0 : xe_code 41 0 = some (.iconst 0, []) := by decide +kernel
theorem kc_41_1 : xe_code 41 1 = some (.istore_n 3, []) := by decide +kernel
theorem kc_41_2 : xe_code 41 2 = some (.iconst (-1), []) := by decide +kernel
theorem kc_41_3 : xe_code 41 3 = some (.istore 4, []) := by decide +kernel
theorem kc_41_5 : xe_code 41 5 = some (.bipush 11, []) := by decide +kernel
theorem kc_41_7 : xe_code 41 7 = some (.istore 5, []) := by decide +kernel
theorem kc_41_9 : xe_code 41 9 = some (.iload 5, []) := by decide +kernel
theorem kc_41_11 : xe_code 41 11 = some (.ifCond .lt 62, [73]) := by decide +kernel
theorem kc_41_14 : xe_code 41 14 = some (.aload_n 0, []) := by decide +kernel
theorem kc_41_15 : xe_code 41 15 = some (.getfield 37, [12, 11, 958]) := by decide +kernel
theorem kc_41_18 : xe_code 41 18 = some (.iload 5, []) := by decide +kernel
theorem kc_41_20 : xe_code 41 20 = some (.iaload, []) := by decide +kernel
theorem kc_41_21 : xe_code 41 21 = some (.iload_n 1, []) := by decide +kernel
theorem kc_41_22 : xe_code 41 22 = some (.if_icmp .ne 45, [67]) := by decide +kernel
theorem kc_41_25 : xe_code 41 25 = some (.aload_n 0, []) := by decide +kernel
theorem kc_41_26 : xe_code 41 26 = some (.getfield 13, [12, 3, 950]) := by decide +kernel
theorem kc_41_29 : xe_code 41 29 = some (.iload_n 1, []) := by decide +kernel
theorem kc_41_30 : xe_code 41 30 = some (.iaload, []) := by decide +kernel
theorem kc_41_31 : xe_code 41 31 = some (.aload_n 0, []) := by decide +kernel
theorem kc_41_32 : xe_code 41 32 = some (.getfield 235, [12, 32, 979]) := by decide +kernel
theorem kc_41_35 : xe_code 41 35 = some (.isub, []) := by decide +kernel
theorem kc_41_36 : xe_code 41 36 = some (.aload_n 0, []) := by decide +kernel
theorem kc_41_37 : xe_code 41 37 = some (.getfield 40, [12, 12, 959]) := by decide +kernel
theorem kc_41_40 : xe_code 41 40 = some (.iload 5, []) := by decide +kernel
theorem kc_41_42 : xe_code 41 42 = some (.iaload, []) := by decide +kernel
theorem kc_41_43 : xe_code 41 43 = some (.imul, []) := by decide +kernel
theorem kc_41_44 : xe_code 41 44 = some (.bipush 100, []) := by decide +kernel
theorem kc_41_46 : xe_code 41 46 = some (.idiv, []) := by decide +kernel
theorem kc_41_47 : xe_code 41 47 = some (.istore 6, []) := by decide +kernel
theorem kc_41_49 : xe_code 41 49 = some (.iload_n 3, []) := by decide +kernel
theorem kc_41_50 : xe_code 41 50 = some (.iload 6, []) := by decide +kernel
theorem kc_41_52 : xe_code 41 52 = some (.ifCond .ge 7, [59]) := by decide +kernel
theorem kc_41_55 : xe_code 41 55 = some (.iconst 0, []) := by decide +kernel
theorem kc_41_56 : xe_code 41 56 = some (.goto 5, [61]) := by decide +kernel
theorem kc_41_59 : xe_code 41 59 = some (.iload 6, []) := by decide +kernel
theorem kc_41_61 : xe_code 41 61 = some (.iadd, []) := by decide +kernel
theorem kc_41_62 : xe_code 41 62 = some (.istore_n 3, []) := by decide +kernel
theorem kc_41_63 : xe_code 41 63 = some (.iload 5, []) := by decide +kernel
theorem kc_41_65 : xe_code 41 65 = some (.istore 4, []) := by decide +kernel
theorem kc_41_67 : xe_code 41 67 = some (.iinc 5 (-1), []) := by decide +kernel
theorem kc_41_70 : xe_code 41 70 = some (.goto (-61), [9]) := by decide +kernel
theorem kc_41_73 : xe_code 41 73 = some (.iload_n 2, []) := by decide +kernel
theorem kc_41_74 : xe_code 41 74 = some (.istore 5, []) := by decide +kernel
theorem kc_41_76 : xe_code 41 76 = some (.iconst 0, []) := by decide +kernel
theorem kc_41_77 : xe_code 41 77 = some (.istore 6, []) := by decide +kernel
theorem kc_41_79 : xe_code 41 79 = some (.iload 6, []) := by decide +kernel
theorem kc_41_81 : xe_code 41 81 = some (.bipush 12, []) := by decide +kernel
theorem kc_41_83 : xe_code 41 83 = some (.if_icmp .ge 96, [179]) := by decide +kernel
theorem kc_41_86 : xe_code 41 86 = some (.iload_n 3, []) := by decide +kernel
theorem kc_41_87 : xe_code 41 87 = some (.ifCond .le 92, [179]) := by decide +kernel
theorem kc_41_90 : xe_code 41 90 = some (.aload_n 0, []) := by decide +kernel
theorem kc_41_91 : xe_code 41 91 = some (.getfield 37, [12, 11, 958]) := by decide +kernel
theorem kc_41_94 : xe_code 41 94 = some (.iload 6, []) := by decide +kernel
theorem kc_41_96 : xe_code 41 96 = some (.iaload, []) := by decide +kernel
theorem kc_41_97 : xe_code 41 97 = some (.iload_n 1, []) := by decide +kernel
theorem kc_41_98 : xe_code 41 98 = some (.if_icmp .ne 75, [173]) := by decide +kernel
theorem kc_41_101 : xe_code 41 101 = some (.aload_n 0, []) := by decide +kernel
theorem kc_41_102 : xe_code 41 102 = some (.getfield 13, [12, 3, 950]) := by decide +kernel
theorem kc_41_105 : xe_code 41 105 = some (.iload_n 1, []) := by decide +kernel
theorem kc_41_106 : xe_code 41 106 = some (.iaload, []) := by decide +kernel
theorem kc_41_107 : xe_code 41 107 = some (.aload_n 0, []) := by decide +kernel
theorem kc_41_108 : xe_code 41 108 = some (.getfield 235, [12, 32, 979]) := by decide +kernel
theorem kc_41_111 : xe_code 41 111 = some (.isub, []) := by decide +kernel
theorem kc_41_112 : xe_code 41 112 = some (.aload_n 0, []) := by decide +kernel
theorem kc_41_113 : xe_code 41 113 = some (.getfield 40, [12, 12, 959]) := by decide +kernel
theorem kc_41_116 : xe_code 41 116 = some (.iload 6, []) := by decide +kernel
theorem kc_41_118 : xe_code 41 118 = some (.iaload, []) := by decide +kernel
theorem kc_41_119 : xe_code 41 119 = some (.imul, []) := by decide +kernel
theorem kc_41_120 : xe_code 41 120 = some (.bipush 100, []) := by decide +kernel
theorem kc_41_122 : xe_code 41 122 = some (.idiv, []) := by decide +kernel
theorem kc_41_123 : xe_code 41 123 = some (.istore 7, []) := by decide +kernel
theorem kc_41_125 : xe_code 41 125 = some (.iload 7, []) := by decide +kernel
theorem kc_41_127 : xe_code 41 127 = some (.ifCond .ge 7, [134]) := by decide +kernel
theorem kc_41_130 : xe_code 41 130 = some (.iconst 0, []) := by decide +kernel
theorem kc_41_131 : xe_code 41 131 = some (.goto 13, [144]) := by decide +kernel
theorem kc_41_134 : xe_code 41 134 = some (.iload_n 2, []) := by decide +kernel
theorem kc_41_135 : xe_code 41 135 = some (.i2l, []) := by decide +kernel
theorem kc_41_136 : xe_code 41 136 = some (.iload 7, []) := by decide +kernel
theorem kc_41_138 : xe_code 41 138 = some (.i2l, []) := by decide +kernel
theorem kc_41_139 : xe_code 41 139 = some (.lmul, []) := by decide +kernel
theorem kc_41_140 : xe_code 41 140 = some (.iload_n 3, []) := by decide +kernel
theorem kc_41_141 : xe_code 41 141 = some (.i2l, []) := by decide +kernel
theorem kc_41_142 : xe_code 41 142 = some (.ldiv, []) := by decide +kernel
theorem kc_41_143 : xe_code 41 143 = some (.l2i, []) := by decide +kernel
theorem kc_41_144 : xe_code 41 144 = some (.istore 8, []) := by decide +kernel
theorem kc_41_146 : xe_code 41 146 = some (.aload_n 0, []) := by decide +kernel
theorem kc_41_147 : xe_code 41 147 = some (.getfield 93, [12, 31, 978]) := by decide +kernel
theorem kc_41_150 : xe_code 41 150 = some (.iload 6, []) := by decide +kernel
theorem kc_41_152 : xe_code 41 152 = some (.aload_n 0, []) := by decide +kernel
theorem kc_41_153 : xe_code 41 153 = some (.getfield 93, [12, 31, 978]) := by decide +kernel
theorem kc_41_156 : xe_code 41 156 = some (.iload 6, []) := by decide +kernel
theorem kc_41_158 : xe_code 41 158 = some (.iaload, []) := by decide +kernel
theorem kc_41_159 : xe_code 41 159 = some (.iload 8, []) := by decide +kernel
theorem kc_41_161 : xe_code 41 161 = some (.iadd, []) := by decide +kernel
theorem kc_41_162 : xe_code 41 162 = some (.invokestatic 232, [40, 1, 1263, 12]) := by decide +kernel
theorem kc_41_165 : xe_code 41 165 = some (.iastore, []) := by decide +kernel
theorem kc_41_166 : xe_code 41 166 = some (.iload 5, []) := by decide +kernel
theorem kc_41_168 : xe_code 41 168 = some (.iload 8, []) := by decide +kernel
theorem kc_41_170 : xe_code 41 170 = some (.isub, []) := by decide +kernel
theorem kc_41_171 : xe_code 41 171 = some (.istore 5, []) := by decide +kernel
theorem kc_41_173 : xe_code 41 173 = some (.iinc 6 1, []) := by decide +kernel
theorem kc_41_176 : xe_code 41 176 = some (.goto (-97), [79]) := by decide +kernel
theorem kc_41_179 : xe_code 41 179 = some (.iload 4, []) := by decide +kernel
theorem kc_41_181 : xe_code 41 181 = some (.ifCond .lt 23, [204]) := by decide +kernel
theorem kc_41_184 : xe_code 41 184 = some (.aload_n 0, []) := by decide +kernel
theorem kc_41_185 : xe_code 41 185 = some (.getfield 93, [12, 31, 978]) := by decide +kernel
theorem kc_41_188 : xe_code 41 188 = some (.iload 4, []) := by decide +kernel
theorem kc_41_190 : xe_code 41 190 = some (.aload_n 0, []) := by decide +kernel
theorem kc_41_191 : xe_code 41 191 = some (.getfield 93, [12, 31, 978]) := by decide +kernel
theorem kc_41_194 : xe_code 41 194 = some (.iload 4, []) := by decide +kernel
theorem kc_41_196 : xe_code 41 196 = some (.iaload, []) := by decide +kernel
theorem kc_41_197 : xe_code 41 197 = some (.iload 5, []) := by decide +kernel
theorem kc_41_199 : xe_code 41 199 = some (.iadd, []) := by decide +kernel
theorem kc_41_200 : xe_code 41 200 = some (.invokestatic 232, [40, 1, 1263, 12]) := by decide +kernel
theorem kc_41_203 : xe_code 41 203 = some (.iastore, []) := by decide +kernel
theorem kc_41_204 : xe_code 41 204 = some (.return_, []) := by decide +kernel
theorem kc_42_0 : xe_code 42 0 = some (.aload_n 0, []) := by decide +kernel
theorem kc_42_1 : xe_code 42 1 = some (.iload_n 1, []) := by decide +kernel
theorem kc_42_2 : xe_code 42 2 = some (.iconst 0, []) := by decide +kernel
theorem kc_42_3 : xe_code 42 3 = some (.aload_n 0, []) := by decide +kernel
theorem kc_42_4 : xe_code 42 4 = some (.invokevirtual 262, [43, 0, 1274, 12]) := by decide +kernel
theorem kc_42_7 : xe_code 42 7 = some (.iconst 1, []) := by decide +kernel
theorem kc_42_8 : xe_code 42 8 = some (.isub, []) := by decide +kernel
theorem kc_42_9 : xe_code 42 9 = some (.invokestatic 173, [12, 3, 1152, 12]) := by decide +kernel
theorem kc_42_12 : xe_code 42 12 = some (.ifCond .eq 7, [19]) := by decide +kernel
theorem kc_42_15 : xe_code 42 15 = some (.iconst 0, []) := by decide +kernel
theorem kc_42_16 : xe_code 42 16 = some (.goto 4, [20]) := by decide +kernel
theorem kc_42_19 : xe_code 42 19 = some (.iconst 1, []) := by decide +kernel
theorem kc_42_20 : xe_code 42 20 = some (.putfield 169, [12, 0, 947]) := by decide +kernel
theorem kc_42_23 : xe_code 42 23 = some (.aload_n 0, []) := by decide +kernel
theorem kc_42_24 : xe_code 42 24 = some (.getfield 169, [12, 0, 947]) := by decide +kernel
theorem kc_42_27 : xe_code 42 27 = some (.ifCond .le 5, [32]) := by decide +kernel
theorem kc_42_30 : xe_code 42 30 = some (.lconst 0, []) := by decide +kernel
theorem kc_42_31 : xe_code 42 31 = some (.lreturn, []) := by decide +kernel
theorem kc_42_32 : xe_code 42 32 = some (.aload_n 0, []) := by decide +kernel
theorem kc_42_33 : xe_code 42 33 = some (.invokevirtual 270, [44, 0, 1278, 12]) := by decide +kernel
theorem kc_42_36 : xe_code 42 36 = some (.aload_n 0, []) := by decide +kernel
theorem kc_42_37 : xe_code 42 37 = some (.getfield 114, [12, 42, 989]) := by decide +kernel
theorem kc_42_40 : xe_code 42 40 = some (.iload_n 1, []) := by decide +kernel
theorem kc_42_41 : xe_code 42 41 = some (.laload, []) := by decide +kernel
theorem kc_42_42 : xe_code 42 42 = some (.lreturn, []) := by decide +kernel
theorem kc_43_0 : xe_code 43 0 = some (.iconst 1, []) := by decide +kernel
theorem kc_43_1 : xe_code 43 1 = some (.aload_n 0, []) := by decide +kernel
theorem kc_43_2 : xe_code 43 2 = some (.getfield 225, [12, 23, 970]) := by decide +kernel
theorem kc_43_5 : xe_code 43 5 = some (.bipush 6, []) := by decide +kernel
theorem kc_43_7 : xe_code 43 7 = some (.if_icmp .ge 10, [17]) := by decide +kernel
theorem kc_43_10 : xe_code 43 10 = some (.aload_n 0, []) := by decide +kernel
theorem kc_43_11 : xe_code 43 11 = some (.getfield 225, [12, 23, 970]) := by decide +kernel
theorem kc_43_14 : xe_code 43 14 = some (.goto 5, [19]) := by decide +kernel
theorem kc_43_17 : xe_code 43 17 = some (.bipush 6, []) := by decide +kernel
theorem kc_43_19 : xe_code 43 19 = some (.ishl, []) := by decide +kernel
theorem kc_43_20 : xe_code 43 20 = some (.ireturn, []) := by decide +kernel
theorem kc_44_0 : xe_code 44 0 = some (.aload_n 0, []) := by decide +kernel
theorem kc_44_1 : xe_code 44 1 = some (.getfield 181, [12, 41, 988]) := by decide +kernel
theorem kc_44_4 : xe_code 44 4 = some (.ifCond .eq 4, [8]) := by decide +kernel
theorem kc_44_7 : xe_code 44 7 = some (.return_, []) := by decide +kernel
theorem kc_44_8 : xe_code 44 8 = some (.aload_n 0, []) := by decide +kernel
theorem kc_44_9 : xe_code 44 9 = some (.iconst 1, []) := by decide +kernel
theorem kc_44_10 : xe_code 44 10 = some (.putfield 181, [12, 41, 988]) := by decide +kernel
theorem kc_44_13 : xe_code 44 13 = some (.aload_n 0, []) := by decide +kernel
theorem kc_44_14 : xe_code 44 14 = some (.invokevirtual 259, [45, 0, 1282, 12]) := by decide +kernel
theorem kc_44_17 : xe_code 44 17 = some (.iconst 0, []) := by decide +kernel
theorem kc_44_18 : xe_code 44 18 = some (.istore_n 1, []) := by decide +kernel
theorem kc_44_19 : xe_code 44 19 = some (.iload_n 1, []) := by decide +kernel
theorem kc_44_20 : xe_code 44 20 = some (.aload_n 0, []) := by decide +kernel
theorem kc_44_21 : xe_code 44 21 = some (.invokevirtual 262, [43, 0, 1274, 12]) := by decide +kernel
theorem kc_44_24 : xe_code 44 24 = some (.if_icmp .ge 20, [44]) := by decide +kernel
theorem kc_44_27 : xe_code 44 27 = some (.aload_n 0, []) := by decide +kernel
theorem kc_44_28 : xe_code 44 28 = some (.getfield 114, [12, 42, 989]) := by decide +kernel
theorem kc_44_31 : xe_code 44 31 = some (.iload_n 1, []) := by decide +kernel
theorem kc_44_32 : xe_code 44 32 = some (.aload_n 0, []) := by decide +kernel
theorem kc_44_33 : xe_code 44 33 = some (.iload_n 1, []) := by decide +kernel
theorem kc_44_34 : xe_code 44 34 = some (.invokevirtual 266, [46, 1, 1286, 12]) := by decide +kernel
theorem kc_44_37 : xe_code 44 37 = some (.lastore, []) := by decide +kernel
theorem kc_44_38 : xe_code 44 38 = some (.iinc 1 1, []) := by decide +kernel
theorem kc_44_41 : xe_code 44 41 = some (.goto (-22), [19]) := by decide +kernel
theorem kc_44_44 : xe_code 44 44 = some (.return_, []) := by decide +kernel
theorem kc_45_0 : xe_code 45 0 = some (.iconst 5, []) := by decide +kernel
theorem kc_45_1 : xe_code 45 1 = some (.istore_n 1, []) := by decide +kernel
theorem kc_45_2 : xe_code 45 2 = some (.iconst 0, []) := by decide +kernel
theorem kc_45_3 : xe_code 45 3 = some (.istore_n 2, []) := by decide +kernel
theorem kc_45_4 : xe_code 45 4 = some (.iconst 0, []) := by decide +kernel
theorem kc_45_5 : xe_code 45 5 = some (.istore_n 3, []) := by decide +kernel
theorem kc_45_6 : xe_code 45 6 = some (.iload_n 3, []) := by decide +kernel
theorem kc_45_7 : xe_code 45 7 = some (.sipush 600, []) := by decide +kernel
theorem kc_45_10 : xe_code 45 10 = some (.if_icmp .ge 67, [77]) := by decide +kernel
theorem kc_45_13 : xe_code 45 13 = some (.aload_n 0, []) := by decide +kernel
theorem kc_45_14 : xe_code 45 14 = some (.getfield 31, [12, 9, 956]) := by decide +kernel
theorem kc_45_17 : xe_code 45 17 = some (.iload_n 3, []) := by decide +kernel
theorem kc_45_18 : xe_code 45 18 = some (.iaload, []) := by decide +kernel
theorem kc_45_19 : xe_code 45 19 = some (.bipush 99, []) := by decide +kernel
theorem kc_45_21 : xe_code 45 21 = some (.if_icmp .ne 7, [28]) := by decide +kernel
theorem kc_45_24 : xe_code 45 24 = some (.iload_n 1, []) := by decide +kernel
theorem kc_45_25 : xe_code 45 25 = some (.goto 9, [34]) := by decide +kernel
theorem kc_45_28 : xe_code 45 28 = some (.aload_n 0, []) := by decide +kernel
theorem kc_45_29 : xe_code 45 29 = some (.getfield 31, [12, 9, 956]) := by decide +kernel
theorem kc_45_32 : xe_code 45 32 = some (.iload_n 3, []) := by decide +kernel
theorem kc_45_33 : xe_code 45 33 = some (.iaload, []) := by decide +kernel
theorem kc_45_34 : xe_code 45 34 = some (.istore_n 1, []) := by decide +kernel
theorem kc_45_35 : xe_code 45 35 = some (.aload_n 0, []) := by decide +kernel
theorem kc_45_36 : xe_code 45 36 = some (.getfield 34, [12, 10, 957]) := by decide +kernel
theorem kc_45_39 : xe_code 45 39 = some (.iload_n 3, []) := by decide +kernel
theorem kc_45_40 : xe_code 45 40 = some (.iaload, []) := by decide +kernel
theorem kc_45_41 : xe_code 45 41 = some (.bipush 99, []) := by decide +kernel
theorem kc_45_43 : xe_code 45 43 = some (.if_icmp .ne 7, [50]) := by decide +kernel
theorem kc_45_46 : xe_code 45 46 = some (.iload_n 2, []) := by decide +kernel
theorem kc_45_47 : xe_code 45 47 = some (.goto 9, [56]) := by decide +kernel
theorem kc_45_50 : xe_code 45 50 = some (.aload_n 0, []) := by decide +kernel
theorem kc_45_51 : xe_code 45 51 = some (.getfield 34, [12, 10, 957]) := by decide +kernel
theorem kc_45_54 : xe_code 45 54 = some (.iload_n 3, []) := by decide +kernel
theorem kc_45_55 : xe_code 45 55 = some (.iaload, []) := by decide +kernel
theorem kc_45_56 : xe_code 45 56 = some (.istore_n 2, []) := by decide +kernel
theorem kc_45_57 : xe_code 45 57 = some (.aload_n 0, []) := by decide +kernel
theorem kc_45_58 : xe_code 45 58 = some (.getfield 118, [12, 43, 990]) := by decide +kernel
theorem kc_45_61 : xe_code 45 61 = some (.iload_n 3, []) := by decide +kernel
theorem kc_45_62 : xe_code 45 62 = some (.iload_n 1, []) := by decide +kernel
theorem kc_45_63 : xe_code 45 63 = some (.iastore, []) := by decide +kernel
theorem kc_45_64 : xe_code 45 64 = some (.aload_n 0, []) := by decide +kernel
theorem kc_45_65 : xe_code 45 65 = some (.getfield 121, [12, 44, 991]) := by decide +kernel
theorem kc_45_68 : xe_code 45 68 = some (.iload_n 3, []) := by decide +kernel
theorem kc_45_69 : xe_code 45 69 = some (.iload_n 2, []) := by decide +kernel
theorem kc_45_70 : xe_code 45 70 = some (.iastore, []) := by decide +kernel
theorem kc_45_71 : xe_code 45 71 = some (.iinc 3 1, []) := by decide +kernel
theorem kc_45_74 : xe_code 45 74 = some (.goto (-68), [6]) := by decide +kernel
theorem kc_45_77 : xe_code 45 77 = some (.return_, []) := by decide +kernel
theorem kc_46_0 : xe_code 46 0 = some (.lconst 0, []) := by decide +kernel
theorem kc_46_1 : xe_code 46 1 = some (.lstore_n 2, []) := by decide +kernel
theorem kc_46_2 : xe_code 46 2 = some (.iconst 0, []) := by decide +kernel
theorem kc_46_3 : xe_code 46 3 = some (.istore 4, []) := by decide +kernel
theorem kc_46_5 : xe_code 46 5 = some (.iconst 0, []) := by decide +kernel
theorem kc_46_6 : xe_code 46 6 = some (.istore 5, []) := by decide +kernel
theorem kc_46_8 : xe_code 46 8 = some (.iload 5, []) := by decide +kernel
theorem kc_46_10 : xe_code 46 10 = some (.bipush 6, []) := by decide +kernel
theorem kc_46_12 : xe_code 46 12 = some (.if_icmp .ge 17, [29]) := by decide +kernel
theorem kc_46_15 : xe_code 46 15 = some (.aload_n 0, []) := by decide +kernel
theorem kc_46_16 : xe_code 46 16 = some (.getfield 90, [12, 30, 977]) := by decide +kernel
theorem kc_46_19 : xe_code 46 19 = some (.iload 5, []) := by decide +kernel
theorem kc_46_21 : xe_code 46 21 = some (.iconst 0, []) := by decide +kernel
theorem kc_46_22 : xe_code 46 22 = some (.iastore, []) := by decide +kernel
theorem kc_46_23 : xe_code 46 23 = some (.iinc 5 1, []) := by decide +kernel
theorem kc_46_26 : xe_code 46 26 = some (.goto (-18), [8]) := by decide +kernel
theorem kc_46_29 : xe_code 46 29 = some (.iconst 0, []) := by decide +kernel
theorem kc_46_30 : xe_code 46 30 = some (.istore 5, []) := by decide +kernel
theorem kc_46_32 : xe_code 46 32 = some (.iload 5, []) := by decide +kernel
theorem kc_46_34 : xe_code 46 34 = some (.bipush 12, []) := by decide +kernel
theorem kc_46_36 : xe_code 46 36 = some (.if_icmp .ge 17, [53]) := by decide +kernel
theorem kc_46_39 : xe_code 46 39 = some (.aload_n 0, []) := by decide +kernel
theorem kc_46_40 : xe_code 46 40 = some (.getfield 93, [12, 31, 978]) := by decide +kernel
theorem kc_46_43 : xe_code 46 43 = some (.iload 5, []) := by decide +kernel
theorem kc_46_45 : xe_code 46 45 = some (.iconst 0, []) := by decide +kernel
theorem kc_46_46 : xe_code 46 46 = some (.iastore, []) := by decide +kernel
theorem kc_46_47 : xe_code 46 47 = some (.iinc 5 1, []) := by decide +kernel
theorem kc_46_50 : xe_code 46 50 = some (.goto (-18), [32]) := by decide +kernel
theorem kc_46_53 : xe_code 46 53 = some (.iconst 0, []) := by decide +kernel
theorem kc_46_54 : xe_code 46 54 = some (.istore 5, []) := by decide +kernel
theorem kc_46_56 : xe_code 46 56 = some (.iload 5, []) := by decide +kernel
theorem kc_46_58 : xe_code 46 58 = some (.aload_n 0, []) := by decide +kernel
theorem kc_46_59 : xe_code 46 59 = some (.getfield 213, [12, 1, 948]) := by decide +kernel
theorem kc_46_62 : xe_code 46 62 = some (.if_icmp .gt 159, [221]) := by decide +kernel
theorem kc_46_65 : xe_code 46 65 = some (.iload 4, []) := by decide +kernel
theorem kc_46_67 : xe_code 46 67 = some (.aload_n 0, []) := by decide +kernel
theorem kc_46_68 : xe_code 46 68 = some (.getfield 222, [12, 18, 965]) := by decide +kernel
theorem kc_46_71 : xe_code 46 71 = some (.if_icmp .ge 105, [176]) := by decide +kernel
theorem kc_46_74 : xe_code 46 74 = some (.aload_n 0, []) := by decide +kernel
theorem kc_46_75 : xe_code 46 75 = some (.getfield 63, [12, 20, 967]) := by decide +kernel
theorem kc_46_78 : xe_code 46 78 = some (.iload 4, []) := by decide +kernel
theorem kc_46_80 : xe_code 46 80 = some (.iaload, []) := by decide +kernel
theorem kc_46_81 : xe_code 46 81 = some (.iload 5, []) := by decide +kernel
theorem kc_46_83 : xe_code 46 83 = some (.if_icmp .ne 93, [176]) := by decide +kernel
theorem kc_46_86 : xe_code 46 86 = some (.aload_n 0, []) := by decide +kernel
theorem kc_46_87 : xe_code 46 87 = some (.getfield 93, [12, 31, 978]) := by decide +kernel
theorem kc_46_90 : xe_code 46 90 = some (.aload_n 0, []) := by decide +kernel
theorem kc_46_91 : xe_code 46 91 = some (.getfield 60, [12, 19, 966]) := by decide +kernel
theorem kc_46_94 : xe_code 46 94 = some (.iload 4, []) := by decide +kernel
theorem kc_46_96 : xe_code 46 96 = some (.iaload, []) := by decide +kernel
theorem kc_46_97 : xe_code 46 97 = some (.iaload, []) := by decide +kernel
theorem kc_46_98 : xe_code 46 98 = some (.istore 6, []) := by decide +kernel
theorem kc_46_100 : xe_code 46 100 = some (.aload_n 0, []) := by decide +kernel
theorem kc_46_101 : xe_code 46 101 = some (.getfield 66, [12, 21, 968]) := by decide +kernel
theorem kc_46_104 : xe_code 46 104 = some (.iload 4, []) := by decide +kernel
theorem kc_46_106 : xe_code 46 106 = some (.iaload, []) := by decide +kernel
theorem kc_46_107 : xe_code 46 107 = some (.aload_n 0, []) := by decide +kernel
theorem kc_46_108 : xe_code 46 108 = some (.getfield 69, [12, 22, 969]) := by decide +kernel
theorem kc_46_111 : xe_code 46 111 = some (.iload 4, []) := by decide +kernel
theorem kc_46_113 : xe_code 46 113 = some (.iaload, []) := by decide +kernel
theorem kc_46_114 : xe_code 46 114 = some (.isub, []) := by decide +kernel
theorem kc_46_115 : xe_code 46 115 = some (.istore 7, []) := by decide +kernel
theorem kc_46_117 : xe_code 46 117 = some (.aload_n 0, []) := by decide +kernel
theorem kc_46_118 : xe_code 46 118 = some (.getfield 66, [12, 21, 968]) := by decide +kernel
theorem kc_46_121 : xe_code 46 121 = some (.iload 4, []) := by decide +kernel
theorem kc_46_123 : xe_code 46 123 = some (.iaload, []) := by decide +kernel
theorem kc_46_124 : xe_code 46 124 = some (.aload_n 0, []) := by decide +kernel
theorem kc_46_125 : xe_code 46 125 = some (.getfield 69, [12, 22, 969]) := by decide +kernel
theorem kc_46_128 : xe_code 46 128 = some (.iload 4, []) := by decide +kernel
theorem kc_46_130 : xe_code 46 130 = some (.iaload, []) := by decide +kernel
theorem kc_46_131 : xe_code 46 131 = some (.iadd, []) := by decide +kernel
theorem kc_46_132 : xe_code 46 132 = some (.istore 8, []) := by decide +kernel
theorem kc_46_134 : xe_code 46 134 = some (.lload_n 2, []) := by decide +kernel
theorem kc_46_135 : xe_code 46 135 = some (.iload 6, []) := by decide +kernel
theorem kc_46_137 : xe_code 46 137 = some (.iload 7, []) := by decide +kernel
theorem kc_46_139 : xe_code 46 139 = some (.if_icmp .ge 12, [151]) := by decide +kernel
theorem kc_46_142 : xe_code 46 142 = some (.iload 7, []) := by decide +kernel
theorem kc_46_144 : xe_code 46 144 = some (.iload 6, []) := by decide +kernel
theorem kc_46_146 : xe_code 46 146 = some (.isub, []) := by decide +kernel
theorem kc_46_147 : xe_code 46 147 = some (.i2l, []) := by decide +kernel
theorem kc_46_148 : xe_code 46 148 = some (.goto 20, [168]) := by decide +kernel
theorem kc_46_151 : xe_code 46 151 = some (.iload 6, []) := by decide +kernel
theorem kc_46_153 : xe_code 46 153 = some (.iload 8, []) := by decide +kernel
theorem kc_46_155 : xe_code 46 155 = some (.if_icmp .le 12, [167]) := by decide +kernel
theorem kc_46_158 : xe_code 46 158 = some (.iload 6, []) := by decide +kernel
theorem kc_46_160 : xe_code 46 160 = some (.iload 8, []) := by decide +kernel
theorem kc_46_162 : xe_code 46 162 = some (.isub, []) := by decide +kernel
theorem kc_46_163 : xe_code 46 163 = some (.i2l, []) := by decide +kernel
theorem kc_46_164 : xe_code 46 164 = some (.goto 4, [168]) := by decide +kernel
theorem kc_46_167 : xe_code 46 167 = some (.lconst 0, []) := by decide +kernel
theorem kc_46_168 : xe_code 46 168 = some (.ladd, []) := by decide +kernel
theorem kc_46_169 : xe_code 46 169 = some (.lstore_n 2, []) := by decide +kernel
theorem kc_46_170 : xe_code 46 170 = some (.iinc 4 1, []) := by decide +kernel
theorem kc_46_173 : xe_code 46 173 = some (.goto (-108), [65]) := by decide +kernel
theorem kc_46_176 : xe_code 46 176 = some (.iload 5, []) := by decide +kernel
theorem kc_46_178 : xe_code 46 178 = some (.aload_n 0, []) := by decide +kernel
theorem kc_46_179 : xe_code 46 179 = some (.getfield 213, [12, 1, 948]) := by decide +kernel
theorem kc_46_182 : xe_code 46 182 = some (.if_icmp .ge 33, [215]) := by decide +kernel
theorem kc_46_185 : xe_code 46 185 = some (.aload_n 0, []) := by decide +kernel
theorem kc_46_186 : xe_code 46 186 = some (.aload_n 0, []) := by decide +kernel
theorem kc_46_187 : xe_code 46 187 = some (.getfield 118, [12, 43, 990]) := by decide +kernel
theorem kc_46_190 : xe_code 46 190 = some (.iload 5, []) := by decide +kernel
theorem kc_46_192 : xe_code 46 192 = some (.iaload, []) := by decide +kernel
theorem kc_46_193 : xe_code 46 193 = some (.putfield 235, [12, 32, 979]) := by decide +kernel
theorem kc_46_196 : xe_code 46 196 = some (.aload_n 0, []) := by decide +kernel
theorem kc_46_197 : xe_code 46 197 = some (.aload_n 0, []) := by decide +kernel
theorem kc_46_198 : xe_code 46 198 = some (.getfield 121, [12, 44, 991]) := by decide +kernel
theorem kc_46_201 : xe_code 46 201 = some (.iload 5, []) := by decide +kernel
theorem kc_46_203 : xe_code 46 203 = some (.iaload, []) := by decide +kernel
theorem kc_46_204 : xe_code 46 204 = some (.putfield 246, [12, 33, 980]) := by decide +kernel
theorem kc_46_207 : xe_code 46 207 = some (.aload_n 0, []) := by decide +kernel
theorem kc_46_208 : xe_code 46 208 = some (.iload_n 1, []) := by decide +kernel
theorem kc_46_209 : xe_code 46 209 = some (.iconst 0, []) := by decide +kernel
theorem kc_46_210 : xe_code 46 210 = some (.iload 5, []) := by decide +kernel
theorem kc_46_212 : xe_code 46 212 = some (.invokevirtual 252, [37, 3, 1251, 12]) := by decide +kernel
theorem kc_46_215 : xe_code 46 215 = some (.iinc 5 1, []) := by decide +kernel
theorem kc_46_218 : xe_code 46 218 = some (.goto (-162), [56]) := by decide +kernel
theorem kc_46_221 : xe_code 46 221 = some (.lload_n 2, []) := by decide +kernel
theorem kc_46_222 : xe_code 46 222 = some (.lreturn, []) := by decide +kernel
theorem kc_47_0 : xe_code 47 0 = some (.aload_n 0, []) := by decide +kernel
theorem kc_47_1 : xe_code 47 1 = some (.iconst 0, []) := by decide +kernel
theorem kc_47_2 : xe_code 47 2 = some (.putfield 169, [12, 0, 947]) := by decide +kernel
theorem kc_47_5 : xe_code 47 5 = some (.aload_n 0, []) := by decide +kernel
theorem kc_47_6 : xe_code 47 6 = some (.iload_n 2, []) := by decide +kernel
theorem kc_47_7 : xe_code 47 7 = some (.invokevirtual 219, [32, 1, 1231, 12]) := by decide +kernel
theorem kc_47_10 : xe_code 47 10 = some (.ifCond .ne 9, [19]) := by decide +kernel
theorem kc_47_13 : xe_code 47 13 = some (.aload_n 0, []) := by decide +kernel
theorem kc_47_14 : xe_code 47 14 = some (.iconst (-1), []) := by decide +kernel
theorem kc_47_15 : xe_code 47 15 = some (.invokevirtual 188, [13, 1, 1155, 12]) := by decide +kernel
theorem kc_47_18 : xe_code 47 18 = some (.ireturn, []) := by decide +kernel
theorem kc_47_19 : xe_code 47 19 = some (.iload_n 1, []) := by decide +kernel
theorem kc_47_20 : xe_code 47 20 = some (.iconst 0, []) := by decide +kernel
theorem kc_47_21 : xe_code 47 21 = some (.aload_n 0, []) := by decide +kernel
theorem kc_47_22 : xe_code 47 22 = some (.invokevirtual 262, [43, 0, 1274, 12]) := by decide +kernel
theorem kc_47_25 : xe_code 47 25 = some (.iconst 1, []) := by decide +kernel
theorem kc_47_26 : xe_code 47 26 = some (.isub, []) := by decide +kernel
theorem kc_47_27 : xe_code 47 27 = some (.invokestatic 173, [12, 3, 1152, 12]) := by decide +kernel
theorem kc_47_30 : xe_code 47 30 = some (.ifCond .ne 10, [40]) := by decide +kernel
theorem kc_47_33 : xe_code 47 33 = some (.aload_n 0, []) := by decide +kernel
theorem kc_47_34 : xe_code 47 34 = some (.bipush (-2), []) := by decide +kernel
theorem kc_47_36 : xe_code 47 36 = some (.invokevirtual 188, [13, 1, 1155, 12]) := by decide +kernel
theorem kc_47_39 : xe_code 47 39 = some (.ireturn, []) := by decide +kernel
theorem kc_47_40 : xe_code 47 40 = some (.aload_n 0, []) := by decide +kernel
theorem kc_47_41 : xe_code 47 41 = some (.invokevirtual 259, [45, 0, 1282, 12]) := by decide +kernel
theorem kc_47_44 : xe_code 47 44 = some (.aload_n 0, []) := by decide +kernel
theorem kc_47_45 : xe_code 47 45 = some (.iload_n 1, []) := by decide +kernel
theorem kc_47_46 : xe_code 47 46 = some (.invokevirtual 266, [46, 1, 1286, 12]) := by decide +kernel
theorem kc_47_49 : xe_code 47 49 = some (.lstore_n 3, []) := by decide +kernel
theorem kc_47_50 : xe_code 47 50 = some (.aload_n 0, []) := by decide +kernel
theorem kc_47_51 : xe_code 47 51 = some (.getfield 93, [12, 31, 978]) := by decide +kernel
theorem kc_47_54 : xe_code 47 54 = some (.iload_n 2, []) := by decide +kernel
theorem kc_47_55 : xe_code 47 55 = some (.iaload, []) := by decide +kernel
theorem kc_47_56 : xe_code 47 56 = some (.ireturn, []) := by decide +kernel
theorem kc_48_0 : xe_code 48 0 = some (.aload_n 0, []) := by decide +kernel
theorem kc_48_1 : xe_code 48 1 = some (.iconst 0, []) := by decide +kernel
theorem kc_48_2 : xe_code 48 2 = some (.putfield 169, [12, 0, 947]) := by decide +kernel
theorem kc_48_5 : xe_code 48 5 = some (.aload_n 0, []) := by decide +kernel
theorem kc_48_6 : xe_code 48 6 = some (.invokevirtual 276, [49, 0, 1298, 12]) := by decide +kernel
theorem kc_48_9 : xe_code 48 9 = some (.ireturn, []) := by decide +kernel
theorem kc_49_0 : xe_code 49 0 = some (.aload_n 0, []) := by decide +kernel
theorem kc_49_1 : xe_code 49 1 = some (.invokevirtual 270, [44, 0, 1278, 12]) := by decide +kernel
theorem kc_49_4 : xe_code 49 4 = some (.iconst 0, []) := by decide +kernel
theorem kc_49_5 : xe_code 49 5 = some (.istore_n 1, []) := by decide +kernel
theorem kc_49_6 : xe_code 49 6 = some (.iconst 1, []) := by decide +kernel
theorem kc_49_7 : xe_code 49 7 = some (.istore_n 2, []) := by decide +kernel
theorem kc_49_8 : xe_code 49 8 = some (.iload_n 2, []) := by decide +kernel
theorem kc_49_9 : xe_code 49 9 = some (.aload_n 0, []) := by decide +kernel
theorem kc_49_10 : xe_code 49 10 = some (.invokevirtual 262, [43, 0, 1274, 12]) := by decide +kernel
theorem kc_49_13 : xe_code 49 13 = some (.if_icmp .ge 68, [81]) := by decide +kernel
theorem kc_49_16 : xe_code 49 16 = some (.aload_n 0, []) := by decide +kernel
theorem kc_49_17 : xe_code 49 17 = some (.getfield 114, [12, 42, 989]) := by decide +kernel
theorem kc_49_20 : xe_code 49 20 = some (.iload_n 2, []) := by decide +kernel
theorem kc_49_21 : xe_code 49 21 = some (.laload, []) := by decide +kernel
theorem kc_49_22 : xe_code 49 22 = some (.aload_n 0, []) := by decide +kernel
theorem kc_49_23 : xe_code 49 23 = some (.getfield 114, [12, 42, 989]) := by decide +kernel
theorem kc_49_26 : xe_code 49 26 = some (.iload_n 1, []) := by decide +kernel
theorem kc_49_27 : xe_code 49 27 = some (.laload, []) := by decide +kernel
theorem kc_49_28 : xe_code 49 28 = some (.lcmp, []) := by decide +kernel
theorem kc_49_29 : xe_code 49 29 = some (.ifCond .lt 30, [59]) := by decide +kernel
theorem kc_49_32 : xe_code 49 32 = some (.aload_n 0, []) := by decide +kernel
theorem kc_49_33 : xe_code 49 33 = some (.getfield 114, [12, 42, 989]) := by decide +kernel
theorem kc_49_36 : xe_code 49 36 = some (.iload_n 2, []) := by decide +kernel
theorem kc_49_37 : xe_code 49 37 = some (.laload, []) := by decide +kernel
theorem kc_49_38 : xe_code 49 38 = some (.aload_n 0, []) := by decide +kernel
theorem kc_49_39 : xe_code 49 39 = some (.getfield 114, [12, 42, 989]) := by decide +kernel
theorem kc_49_42 : xe_code 49 42 = some (.iload_n 1, []) := by decide +kernel
theorem kc_49_43 : xe_code 49 43 = some (.laload, []) := by decide +kernel
theorem kc_49_44 : xe_code 49 44 = some (.lcmp, []) := by decide +kernel
theorem kc_49_45 : xe_code 49 45 = some (.ifCond .ne 18, [63]) := by decide +kernel
theorem kc_49_48 : xe_code 49 48 = some (.iload_n 2, []) := by decide +kernel
theorem kc_49_49 : xe_code 49 49 = some (.invokestatic 273, [50, 1, 1302, 12]) := by decide +kernel
theorem kc_49_52 : xe_code 49 52 = some (.iload_n 1, []) := by decide +kernel
theorem kc_49_53 : xe_code 49 53 = some (.invokestatic 273, [50, 1, 1302, 12]) := by decide +kernel
theorem kc_49_56 : xe_code 49 56 = some (.if_icmp .ge 7, [63]) := by decide +kernel
theorem kc_49_59 : xe_code 49 59 = some (.iconst 1, []) := by decide +kernel
theorem kc_49_60 : xe_code 49 60 = some (.goto 4, [64]) := by decide +kernel
theorem kc_49_63 : xe_code 49 63 = some (.iconst 0, []) := by decide +kernel
theorem kc_49_64 : xe_code 49 64 = some (.istore_n 3, []) := by decide +kernel
theorem kc_49_65 : xe_code 49 65 = some (.iload_n 3, []) := by decide +kernel
theorem kc_49_66 : xe_code 49 66 = some (.ifCond .eq 7, [73]) := by decide +kernel
theorem kc_49_69 : xe_code 49 69 = some (.iload_n 2, []) := by decide +kernel
theorem kc_49_70 : xe_code 49 70 = some (.goto 4, [74]) := by decide +kernel
theorem kc_49_73 : xe_code 49 73 = some (.iload_n 1, []) := by decide +kernel
theorem kc_49_74 : xe_code 49 74 = some (.istore_n 1, []) := by decide +kernel
theorem kc_49_75 : xe_code 49 75 = some (.iinc 2 1, []) := by decide +kernel
theorem kc_49_78 : xe_code 49 78 = some (.goto (-70), [8]) := by decide +kernel
theorem kc_49_81 : xe_code 49 81 = some (.iload_n 1, []) := by decide +kernel
theorem kc_49_82 : xe_code 49 82 = some (.ireturn, []) := by decide +kernel
theorem kc_50_0 : xe_code 50 0 = some (.iconst 0, []) := by decide +kernel
theorem kc_50_1 : xe_code 50 1 = some (.istore_n 1, []) := by decide +kernel
theorem kc_50_2 : xe_code 50 2 = some (.iload_n 0, []) := by decide +kernel
theorem kc_50_3 : xe_code 50 3 = some (.istore_n 2, []) := by decide +kernel
theorem kc_50_4 : xe_code 50 4 = some (.iload_n 2, []) := by decide +kernel
theorem kc_50_5 : xe_code 50 5 = some (.ifCond .le 16, [21]) := by decide +kernel
theorem kc_50_8 : xe_code 50 8 = some (.iload_n 1, []) := by decide +kernel
theorem kc_50_9 : xe_code 50 9 = some (.iload_n 2, []) := by decide +kernel
theorem kc_50_10 : xe_code 50 10 = some (.iconst 2, []) := by decide +kernel
theorem kc_50_11 : xe_code 50 11 = some (.irem, []) := by decide +kernel
theorem kc_50_12 : xe_code 50 12 = some (.iadd, []) := by decide +kernel
theorem kc_50_13 : xe_code 50 13 = some (.istore_n 1, []) := by decide +kernel
theorem kc_50_14 : xe_code 50 14 = some (.iload_n 2, []) := by decide +kernel
theorem kc_50_15 : xe_code 50 15 = some (.iconst 2, []) := by decide +kernel
theorem kc_50_16 : xe_code 50 16 = some (.idiv, []) := by decide +kernel
theorem kc_50_17 : xe_code 50 17 = some (.istore_n 2, []) := by decide +kernel
theorem kc_50_18 : xe_code 50 18 = some (.goto (-14), [4]) := by decide +kernel
theorem kc_50_21 : xe_code 50 21 = some (.iload_n 1, []) := by decide +kernel
theorem kc_50_22 : xe_code 50 22 = some (.ireturn, []) := by decide +kernel
theorem kc_51_0 : xe_code 51 0 = some (.aload_n 0, []) := by decide +kernel
theorem kc_51_1 : xe_code 51 1 = some (.iconst 0, []) := by decide +kernel
theorem kc_51_2 : xe_code 51 2 = some (.putfield 169, [12, 0, 947]) := by decide +kernel
theorem kc_51_5 : xe_code 51 5 = some (.iload_n 1, []) := by decide +kernel
theorem kc_51_6 : xe_code 51 6 = some (.iconst 0, []) := by decide +kernel
theorem kc_51_7 : xe_code 51 7 = some (.iconst 1, []) := by decide +kernel
theorem kc_51_8 : xe_code 51 8 = some (.invokestatic 173, [12, 3, 1152, 12]) := by decide +kernel
theorem kc_51_11 : xe_code 51 11 = some (.ifCond .ne 10, [21]) := by decide +kernel
theorem kc_51_14 : xe_code 51 14 = some (.aload_n 0, []) := by decide +kernel
theorem kc_51_15 : xe_code 51 15 = some (.bipush (-2), []) := by decide +kernel
theorem kc_51_17 : xe_code 51 17 = some (.invokevirtual 188, [13, 1, 1155, 12]) := by decide +kernel
theorem kc_51_20 : xe_code 51 20 = some (.ireturn, []) := by decide +kernel
theorem kc_51_21 : xe_code 51 21 = some (.aload_n 0, []) := by decide +kernel
theorem kc_51_22 : xe_code 51 22 = some (.invokevirtual 270, [44, 0, 1278, 12]) := by decide +kernel
theorem kc_51_25 : xe_code 51 25 = some (.iconst 0, []) := by decide +kernel
theorem kc_51_26 : xe_code 51 26 = some (.istore_n 2, []) := by decide +kernel
theorem kc_51_27 : xe_code 51 27 = some (.bipush 99, []) := by decide +kernel
theorem kc_51_29 : xe_code 51 29 = some (.istore_n 3, []) := by decide +kernel
theorem kc_51_30 : xe_code 51 30 = some (.iconst 0, []) := by decide +kernel
theorem kc_51_31 : xe_code 51 31 = some (.istore 4, []) := by decide +kernel
theorem kc_51_33 : xe_code 51 33 = some (.iload 4, []) := by decide +kernel
theorem kc_51_35 : xe_code 51 35 = some (.aload_n 0, []) := by decide +kernel
theorem kc_51_36 : xe_code 51 36 = some (.invokevirtual 262, [43, 0, 1274, 12]) := by decide +kernel
theorem kc_51_39 : xe_code 51 39 = some (.if_icmp .ge 70, [109]) := by decide +kernel
theorem kc_51_42 : xe_code 51 42 = some (.aload_n 0, []) := by decide +kernel
theorem kc_51_43 : xe_code 51 43 = some (.getfield 114, [12, 42, 989]) := by decide +kernel
theorem kc_51_46 : xe_code 51 46 = some (.iload 4, []) := by decide +kernel
theorem kc_51_48 : xe_code 51 48 = some (.laload, []) := by decide +kernel
theorem kc_51_49 : xe_code 51 49 = some (.lconst 0, []) := by decide +kernel
theorem kc_51_50 : xe_code 51 50 = some (.lcmp, []) := by decide +kernel
theorem kc_51_51 : xe_code 51 51 = some (.ifCond .ne 52, [103]) := by decide +kernel
theorem kc_51_54 : xe_code 51 54 = some (.iload 4, []) := by decide +kernel
theorem kc_51_56 : xe_code 51 56 = some (.invokestatic 273, [50, 1, 1302, 12]) := by decide +kernel
theorem kc_51_59 : xe_code 51 59 = some (.iload_n 3, []) := by decide +kernel
theorem kc_51_60 : xe_code 51 60 = some (.if_icmp .ge 7, [67]) := by decide +kernel
theorem kc_51_63 : xe_code 51 63 = some (.iconst 1, []) := by decide +kernel
theorem kc_51_64 : xe_code 51 64 = some (.goto 19, [83]) := by decide +kernel
theorem kc_51_67 : xe_code 51 67 = some (.iload 4, []) := by decide +kernel
theorem kc_51_69 : xe_code 51 69 = some (.invokestatic 273, [50, 1, 1302, 12]) := by decide +kernel
theorem kc_51_72 : xe_code 51 72 = some (.iload_n 3, []) := by decide +kernel
theorem kc_51_73 : xe_code 51 73 = some (.if_icmp .ne 9, [82]) := by decide +kernel
theorem kc_51_76 : xe_code 51 76 = some (.iload_n 2, []) := by decide +kernel
theorem kc_51_77 : xe_code 51 77 = some (.iconst 1, []) := by decide +kernel
theorem kc_51_78 : xe_code 51 78 = some (.iadd, []) := by decide +kernel
theorem kc_51_79 : xe_code 51 79 = some (.goto 4, [83]) := by decide +kernel
theorem kc_51_82 : xe_code 51 82 = some (.iload_n 2, []) := by decide +kernel
theorem kc_51_83 : xe_code 51 83 = some (.istore_n 2, []) := by decide +kernel
theorem kc_51_84 : xe_code 51 84 = some (.iload 4, []) := by decide +kernel
theorem kc_51_86 : xe_code 51 86 = some (.invokestatic 273, [50, 1, 1302, 12]) := by decide +kernel
theorem kc_51_89 : xe_code 51 89 = some (.iload_n 3, []) := by decide +kernel
theorem kc_51_90 : xe_code 51 90 = some (.if_icmp .ge 11, [101]) := by decide +kernel
theorem kc_51_93 : xe_code 51 93 = some (.iload 4, []) := by decide +kernel
theorem kc_51_95 : xe_code 51 95 = some (.invokestatic 273, [50, 1, 1302, 12]) := by decide +kernel
theorem kc_51_98 : xe_code 51 98 = some (.goto 4, [102]) := by decide +kernel
theorem kc_51_101 : xe_code 51 101 = some (.iload_n 3, []) := by decide +kernel
theorem kc_51_102 : xe_code 51 102 = some (.istore_n 3, []) := by decide +kernel
theorem kc_51_103 : xe_code 51 103 = some (.iinc 4 1, []) := by decide +kernel
theorem kc_51_106 : xe_code 51 106 = some (.goto (-73), [33]) := by decide +kernel
theorem kc_51_109 : xe_code 51 109 = some (.iload_n 2, []) := by decide +kernel
theorem kc_51_110 : xe_code 51 110 = some (.ifCond .ne 8, [118]) := by decide +kernel
theorem kc_51_113 : xe_code 51 113 = some (.bipush (-9), []) := by decide +kernel
theorem kc_51_115 : xe_code 51 115 = some (.goto 12, [127]) := by decide +kernel
theorem kc_51_118 : xe_code 51 118 = some (.iload_n 1, []) := by decide +kernel
theorem kc_51_119 : xe_code 51 119 = some (.ifCond .ne 7, [126]) := by decide +kernel
theorem kc_51_122 : xe_code 51 122 = some (.iload_n 2, []) := by decide +kernel
theorem kc_51_123 : xe_code 51 123 = some (.goto 4, [127]) := by decide +kernel
theorem kc_51_126 : xe_code 51 126 = some (.iload_n 3, []) := by decide +kernel
theorem kc_51_127 : xe_code 51 127 = some (.ireturn, []) := by decide +kernel
theorem kc_52_0 : xe_code 52 0 = some (.aload_n 0, []) := by decide +kernel
theorem kc_52_1 : xe_code 52 1 = some (.iconst 0, []) := by decide +kernel
theorem kc_52_2 : xe_code 52 2 = some (.putfield 169, [12, 0, 947]) := by decide +kernel
theorem kc_52_5 : xe_code 52 5 = some (.aload_n 0, []) := by decide +kernel
theorem kc_52_6 : xe_code 52 6 = some (.invokevirtual 288, [53, 0, 1313, 12]) := by decide +kernel
theorem kc_52_9 : xe_code 52 9 = some (.ireturn, []) := by decide +kernel
theorem kc_53_0 : xe_code 53 0 = some (.aload_n 0, []) := by decide +kernel
theorem kc_53_1 : xe_code 53 1 = some (.invokevirtual 270, [44, 0, 1278, 12]) := by decide +kernel
theorem kc_53_4 : xe_code 53 4 = some (.iconst 0, []) := by decide +kernel
theorem kc_53_5 : xe_code 53 5 = some (.istore_n 1, []) := by decide +kernel
theorem kc_53_6 : xe_code 53 6 = some (.iconst 0, []) := by decide +kernel
theorem kc_53_7 : xe_code 53 7 = some (.istore_n 2, []) := by decide +kernel
theorem kc_53_8 : xe_code 53 8 = some (.iload_n 2, []) := by decide +kernel
theorem kc_53_9 : xe_code 53 9 = some (.aload_n 0, []) := by decide +kernel
theorem kc_53_10 : xe_code 53 10 = some (.invokevirtual 262, [43, 0, 1274, 12]) := by decide +kernel
theorem kc_53_13 : xe_code 53 13 = some (.if_icmp .ge 25, [38]) := by decide +kernel
theorem kc_53_16 : xe_code 53 16 = some (.iload_n 1, []) := by decide +kernel
theorem kc_53_17 : xe_code 53 17 = some (.aload_n 0, []) := by decide +kernel
theorem kc_53_18 : xe_code 53 18 = some (.iload_n 2, []) := by decide +kernel
theorem kc_53_19 : xe_code 53 19 = some (.invokevirtual 285, [54, 1, 1317, 12]) := by decide +kernel
theorem kc_53_22 : xe_code 53 22 = some (.ifCond .eq 7, [29]) := by decide +kernel
theorem kc_53_25 : xe_code 53 25 = some (.iconst 1, []) := by decide +kernel
theorem kc_53_26 : xe_code 53 26 = some (.goto 4, [30]) := by decide +kernel
theorem kc_53_29 : xe_code 53 29 = some (.iconst 0, []) := by decide +kernel
theorem kc_53_30 : xe_code 53 30 = some (.iadd, []) := by decide +kernel
theorem kc_53_31 : xe_code 53 31 = some (.istore_n 1, []) := by decide +kernel
theorem kc_53_32 : xe_code 53 32 = some (.iinc 2 1, []) := by decide +kernel
theorem kc_53_35 : xe_code 53 35 = some (.goto (-27), [8]) := by decide +kernel
theorem kc_53_38 : xe_code 53 38 = some (.iload_n 1, []) := by decide +kernel
theorem kc_53_39 : xe_code 53 39 = some (.ireturn, []) := by decide +kernel
theorem kc_54_0 : xe_code 54 0 = some (.aload_n 0, []) := by decide +kernel
theorem kc_54_1 : xe_code 54 1 = some (.getfield 114, [12, 42, 989]) := by decide +kernel
theorem kc_54_4 : xe_code 54 4 = some (.iload_n 1, []) := by decide +kernel
theorem kc_54_5 : xe_code 54 5 = some (.laload, []) := by decide +kernel
theorem kc_54_6 : xe_code 54 6 = some (.lconst 0, []) := by decide +kernel
theorem kc_54_7 : xe_code 54 7 = some (.lcmp, []) := by decide +kernel
theorem kc_54_8 : xe_code 54 8 = some (.ifCond .ne 7, [15]) := by decide +kernel
theorem kc_54_11 : xe_code 54 11 = some (.iconst 1, []) := by decide +kernel
theorem kc_54_12 : xe_code 54 12 = some (.goto 4, [16]) := by decide +kernel
theorem kc_54_15 : xe_code 54 15 = some (.iconst 0, []) := by decide +kernel
theorem kc_54_16 : xe_code 54 16 = some (.istore_n 2, []) := by decide +kernel
theorem kc_54_17 : xe_code 54 17 = some (.iconst 0, []) := by decide +kernel
theorem kc_54_18 : xe_code 54 18 = some (.istore_n 3, []) := by decide +kernel
theorem kc_54_19 : xe_code 54 19 = some (.iload_n 3, []) := by decide +kernel
theorem kc_54_20 : xe_code 54 20 = some (.aload_n 0, []) := by decide +kernel
theorem kc_54_21 : xe_code 54 21 = some (.getfield 279, [12, 45, 992]) := by decide +kernel
theorem kc_54_24 : xe_code 54 24 = some (.if_icmp .ge 43, [67]) := by decide +kernel
theorem kc_54_27 : xe_code 54 27 = some (.iload_n 2, []) := by decide +kernel
theorem kc_54_28 : xe_code 54 28 = some (.ifCond .eq 31, [59]) := by decide +kernel
theorem kc_54_31 : xe_code 54 31 = some (.aload_n 0, []) := by decide +kernel
theorem kc_54_32 : xe_code 54 32 = some (.getfield 130, [12, 48, 995]) := by decide +kernel
theorem kc_54_35 : xe_code 54 35 = some (.iload_n 3, []) := by decide +kernel
theorem kc_54_36 : xe_code 54 36 = some (.iaload, []) := by decide +kernel
theorem kc_54_37 : xe_code 54 37 = some (.ifCond .eq 18, [55]) := by decide +kernel
theorem kc_54_40 : xe_code 54 40 = some (.aload_n 0, []) := by decide +kernel
theorem kc_54_41 : xe_code 54 41 = some (.getfield 130, [12, 48, 995]) := by decide +kernel
theorem kc_54_44 : xe_code 54 44 = some (.iload_n 3, []) := by decide +kernel
theorem kc_54_45 : xe_code 54 45 = some (.iaload, []) := by decide +kernel
theorem kc_54_46 : xe_code 54 46 = some (.aload_n 0, []) := by decide +kernel
theorem kc_54_47 : xe_code 54 47 = some (.iload_n 3, []) := by decide +kernel
theorem kc_54_48 : xe_code 54 48 = some (.iload_n 1, []) := by decide +kernel
theorem kc_54_49 : xe_code 54 49 = some (.invokevirtual 282, [55, 2, 1321, 12]) := by decide +kernel
theorem kc_54_52 : xe_code 54 52 = some (.if_icmp .ne 7, [59]) := by decide +kernel
theorem kc_54_55 : xe_code 54 55 = some (.iconst 1, []) := by decide +kernel
theorem kc_54_56 : xe_code 54 56 = some (.goto 4, [60]) := by decide +kernel
theorem kc_54_59 : xe_code 54 59 = some (.iconst 0, []) := by decide +kernel
theorem kc_54_60 : xe_code 54 60 = some (.istore_n 2, []) := by decide +kernel
theorem kc_54_61 : xe_code 54 61 = some (.iinc 3 1, []) := by decide +kernel
theorem kc_54_64 : xe_code 54 64 = some (.goto (-45), [19]) := by decide +kernel
theorem kc_54_67 : xe_code 54 67 = some (.iload_n 2, []) := by decide +kernel
theorem kc_54_68 : xe_code 54 68 = some (.ireturn, []) := by decide +kernel
theorem kc_55_0 : xe_code 55 0 = some (.aload_n 0, []) := by decide +kernel
theorem kc_55_1 : xe_code 55 1 = some (.getfield 124, [12, 46, 993]) := by decide +kernel
theorem kc_55_4 : xe_code 55 4 = some (.iload_n 1, []) := by decide +kernel
theorem kc_55_5 : xe_code 55 5 = some (.iaload, []) := by decide +kernel
theorem kc_55_6 : xe_code 55 6 = some (.iload_n 2, []) := by decide +kernel
theorem kc_55_7 : xe_code 55 7 = some (.iand, []) := by decide +kernel
theorem kc_55_8 : xe_code 55 8 = some (.ifCond .eq 7, [15]) := by decide +kernel
theorem kc_55_11 : xe_code 55 11 = some (.iconst 1, []) := by decide +kernel
theorem kc_55_12 : xe_code 55 12 = some (.goto 4, [16]) := by decide +kernel
theorem kc_55_15 : xe_code 55 15 = some (.iconst 2, []) := by decide +kernel
theorem kc_55_16 : xe_code 55 16 = some (.ireturn, []) := by decide +kernel
theorem kc_56_0 : xe_code 56 0 = some (.aload_n 0, []) := by decide +kernel
theorem kc_56_1 : xe_code 56 1 = some (.iconst 0, []) := by decide +kernel
theorem kc_56_2 : xe_code 56 2 = some (.putfield 169, [12, 0, 947]) := by decide +kernel
theorem kc_56_5 : xe_code 56 5 = some (.iload_n 1, []) := by decide +kernel
theorem kc_56_6 : xe_code 56 6 = some (.iconst 0, []) := by decide +kernel
theorem kc_56_7 : xe_code 56 7 = some (.bipush 63, []) := by decide +kernel
theorem kc_56_9 : xe_code 56 9 = some (.invokestatic 173, [12, 3, 1152, 12]) := by decide +kernel
theorem kc_56_12 : xe_code 56 12 = some (.ifCond .ne 10, [22]) := by decide +kernel
theorem kc_56_15 : xe_code 56 15 = some (.aload_n 0, []) := by decide +kernel
theorem kc_56_16 : xe_code 56 16 = some (.bipush (-2), []) := by decide +kernel
theorem kc_56_18 : xe_code 56 18 = some (.invokevirtual 188, [13, 1, 1155, 12]) := by decide +kernel
theorem kc_56_21 : xe_code 56 21 = some (.ireturn, []) := by decide +kernel
theorem kc_56_22 : xe_code 56 22 = some (.iload_n 2, []) := by decide +kernel
theorem kc_56_23 : xe_code 56 23 = some (.iconst 1, []) := by decide +kernel
theorem kc_56_24 : xe_code 56 24 = some (.if_icmp .ge 10, [34]) := by decide +kernel
theorem kc_56_27 : xe_code 56 27 = some (.aload_n 0, []) := by decide +kernel
theorem kc_56_28 : xe_code 56 28 = some (.bipush (-4), []) := by decide +kernel
theorem kc_56_30 : xe_code 56 30 = some (.invokevirtual 188, [13, 1, 1155, 12]) := by decide +kernel
theorem kc_56_33 : xe_code 56 33 = some (.ireturn, []) := by decide +kernel
theorem kc_56_34 : xe_code 56 34 = some (.iload_n 2, []) := by decide +kernel
theorem kc_56_35 : xe_code 56 35 = some (.sipush 999, []) := by decide +kernel
theorem kc_56_38 : xe_code 56 38 = some (.if_icmp .gt 12, [50]) := by decide +kernel
theorem kc_56_41 : xe_code 56 41 = some (.aload_n 0, []) := by decide +kernel
theorem kc_56_42 : xe_code 56 42 = some (.getfield 279, [12, 45, 992]) := by decide +kernel
theorem kc_56_45 : xe_code 56 45 = some (.bipush 8, []) := by decide +kernel
theorem kc_56_47 : xe_code 56 47 = some (.if_icmp .ne 10, [57]) := by decide +kernel
theorem kc_56_50 : xe_code 56 50 = some (.aload_n 0, []) := by decide +kernel
theorem kc_56_51 : xe_code 56 51 = some (.bipush (-6), []) := by decide +kernel
theorem kc_56_53 : xe_code 56 53 = some (.invokevirtual 188, [13, 1, 1155, 12]) := by decide +kernel
theorem kc_56_56 : xe_code 56 56 = some (.ireturn, []) := by decide +kernel
theorem kc_56_57 : xe_code 56 57 = some (.aload_n 0, []) := by decide +kernel
theorem kc_56_58 : xe_code 56 58 = some (.getfield 124, [12, 46, 993]) := by decide +kernel
theorem kc_56_61 : xe_code 56 61 = some (.aload_n 0, []) := by decide +kernel
theorem kc_56_62 : xe_code 56 62 = some (.getfield 279, [12, 45, 992]) := by decide +kernel
theorem kc_56_65 : xe_code 56 65 = some (.iload_n 1, []) := by decide +kernel
theorem kc_56_66 : xe_code 56 66 = some (.iastore, []) := by decide +kernel
theorem kc_56_67 : xe_code 56 67 = some (.aload_n 0, []) := by decide +kernel
theorem kc_56_68 : xe_code 56 68 = some (.getfield 127, [12, 47, 994]) := by decide +kernel
theorem kc_56_71 : xe_code 56 71 = some (.aload_n 0, []) := by decide +kernel
theorem kc_56_72 : xe_code 56 72 = some (.getfield 279, [12, 45, 992]) := by decide +kernel
theorem kc_56_75 : xe_code 56 75 = some (.iload_n 2, []) := by decide +kernel
theorem kc_56_76 : xe_code 56 76 = some (.iastore, []) := by decide +kernel
theorem kc_56_77 : xe_code 56 77 = some (.aload_n 0, []) := by decide +kernel
theorem kc_56_78 : xe_code 56 78 = some (.getfield 130, [12, 48, 995]) := by decide +kernel
theorem kc_56_81 : xe_code 56 81 = some (.aload_n 0, []) := by decide +kernel
theorem kc_56_82 : xe_code 56 82 = some (.getfield 279, [12, 45, 992]) := by decide +kernel
theorem kc_56_85 : xe_code 56 85 = some (.iconst 0, []) := by decide +kernel
theorem kc_56_86 : xe_code 56 86 = some (.iastore, []) := by decide +kernel
theorem kc_56_87 : xe_code 56 87 = some (.aload_n 0, []) := by decide +kernel
theorem kc_56_88 : xe_code 56 88 = some (.dup, []) := by decide +kernel
theorem kc_56_89 : xe_code 56 89 = some (.getfield 279, [12, 45, 992]) := by decide +kernel
theorem kc_56_92 : xe_code 56 92 = some (.iconst 1, []) := by decide +kernel
theorem kc_56_93 : xe_code 56 93 = some (.iadd, []) := by decide +kernel
theorem kc_56_94 : xe_code 56 94 = some (.putfield 279, [12, 45, 992]) := by decide +kernel
theorem kc_56_97 : xe_code 56 97 = some (.aload_n 0, []) := by decide +kernel
theorem kc_56_98 : xe_code 56 98 = some (.getfield 279, [12, 45, 992]) := by decide +kernel
theorem kc_56_101 : xe_code 56 101 = some (.iconst 1, []) := by decide +kernel
theorem kc_56_102 : xe_code 56 102 = some (.isub, []) := by decide +kernel
theorem kc_56_103 : xe_code 56 103 = some (.ireturn, []) := by decide +kernel
theorem kc_57_0 : xe_code 57 0 = some (.aload_n 0, []) := by decide +kernel
theorem kc_57_1 : xe_code 57 1 = some (.iconst 0, []) := by decide +kernel
theorem kc_57_2 : xe_code 57 2 = some (.putfield 169, [12, 0, 947]) := by decide +kernel
theorem kc_57_5 : xe_code 57 5 = some (.iload_n 1, []) := by decide +kernel
theorem kc_57_6 : xe_code 57 6 = some (.iconst 0, []) := by decide +kernel
theorem kc_57_7 : xe_code 57 7 = some (.aload_n 0, []) := by decide +kernel
theorem kc_57_8 : xe_code 57 8 = some (.getfield 279, [12, 45, 992]) := by decide +kernel
theorem kc_57_11 : xe_code 57 11 = some (.iconst 1, []) := by decide +kernel
theorem kc_57_12 : xe_code 57 12 = some (.isub, []) := by decide +kernel
theorem kc_57_13 : xe_code 57 13 = some (.invokestatic 173, [12, 3, 1152, 12]) := by decide +kernel
theorem kc_57_16 : xe_code 57 16 = some (.ifCond .ne 9, [25]) := by decide +kernel
theorem kc_57_19 : xe_code 57 19 = some (.aload_n 0, []) := by decide +kernel
theorem kc_57_20 : xe_code 57 20 = some (.iconst (-1), []) := by decide +kernel
theorem kc_57_21 : xe_code 57 21 = some (.invokevirtual 188, [13, 1, 1155, 12]) := by decide +kernel
theorem kc_57_24 : xe_code 57 24 = some (.ireturn, []) := by decide +kernel
theorem kc_57_25 : xe_code 57 25 = some (.aload_n 0, []) := by decide +kernel
theorem kc_57_26 : xe_code 57 26 = some (.getfield 130, [12, 48, 995]) := by decide +kernel
theorem kc_57_29 : xe_code 57 29 = some (.iload_n 1, []) := by decide +kernel
theorem kc_57_30 : xe_code 57 30 = some (.iaload, []) := by decide +kernel
theorem kc_57_31 : xe_code 57 31 = some (.ifCond .eq 10, [41]) := by decide +kernel
theorem kc_57_34 : xe_code 57 34 = some (.aload_n 0, []) := by decide +kernel
theorem kc_57_35 : xe_code 57 35 = some (.bipush (-3), []) := by decide +kernel
theorem kc_57_37 : xe_code 57 37 = some (.invokevirtual 188, [13, 1, 1155, 12]) := by decide +kernel
theorem kc_57_40 : xe_code 57 40 = some (.ireturn, []) := by decide +kernel
theorem kc_57_41 : xe_code 57 41 = some (.aload_n 0, []) := by decide +kernel
theorem kc_57_42 : xe_code 57 42 = some (.getfield 130, [12, 48, 995]) := by decide +kernel
theorem kc_57_45 : xe_code 57 45 = some (.iload_n 1, []) := by decide +kernel
theorem kc_57_46 : xe_code 57 46 = some (.iload_n 2, []) := by decide +kernel
theorem kc_57_47 : xe_code 57 47 = some (.ifCond .eq 7, [54]) := by decide +kernel
theorem kc_57_50 : xe_code 57 50 = some (.iconst 1, []) := by decide +kernel
theorem kc_57_51 : xe_code 57 51 = some (.goto 4, [55]) := by decide +kernel
theorem kc_57_54 : xe_code 57 54 = some (.iconst 2, []) := by decide +kernel
theorem kc_57_55 : xe_code 57 55 = some (.iastore, []) := by decide +kernel
theorem kc_57_56 : xe_code 57 56 = some (.aload_n 0, []) := by decide +kernel
theorem kc_57_57 : xe_code 57 57 = some (.invokevirtual 288, [53, 0, 1313, 12]) := by decide +kernel
theorem kc_57_60 : xe_code 57 60 = some (.ireturn, []) := by decide +kernel
theorem kc_58_0 : xe_code 58 0 = some (.aload_n 0, []) := by decide +kernel
theorem kc_58_1 : xe_code 58 1 = some (.iconst 0, []) := by decide +kernel
theorem kc_58_2 : xe_code 58 2 = some (.putfield 169, [12, 0, 947]) := by decide +kernel
theorem kc_58_5 : xe_code 58 5 = some (.aload_n 0, []) := by decide +kernel
theorem kc_58_6 : xe_code 58 6 = some (.invokevirtual 288, [53, 0, 1313, 12]) := by decide +kernel
theorem kc_58_9 : xe_code 58 9 = some (.istore_n 1, []) := by decide +kernel
theorem kc_58_10 : xe_code 58 10 = some (.bipush (-9), []) := by decide +kernel
theorem kc_58_12 : xe_code 58 12 = some (.istore_n 2, []) := by decide +kernel
theorem kc_58_13 : xe_code 58 13 = some (.iconst 0, []) := by decide +kernel
theorem kc_58_14 : xe_code 58 14 = some (.istore_n 3, []) := by decide +kernel
theorem kc_58_15 : xe_code 58 15 = some (.iconst 0, []) := by decide +kernel
theorem kc_58_16 : xe_code 58 16 = some (.istore 4, []) := by decide +kernel
theorem kc_58_18 : xe_code 58 18 = some (.iload 4, []) := by decide +kernel
theorem kc_58_20 : xe_code 58 20 = some (.aload_n 0, []) := by decide +kernel
theorem kc_58_21 : xe_code 58 21 = some (.getfield 279, [12, 45, 992]) := by decide +kernel
theorem kc_58_24 : xe_code 58 24 = some (.if_icmp .ge 119, [143]) := by decide +kernel
theorem kc_58_27 : xe_code 58 27 = some (.iload_n 1, []) := by decide +kernel
theorem kc_58_28 : xe_code 58 28 = some (.ifCond .le 115, [143]) := by decide +kernel
theorem kc_58_31 : xe_code 58 31 = some (.iconst 0, []) := by decide +kernel
theorem kc_58_32 : xe_code 58 32 = some (.istore 5, []) := by decide +kernel
theorem kc_58_34 : xe_code 58 34 = some (.iconst 0, []) := by decide +kernel
theorem kc_58_35 : xe_code 58 35 = some (.istore 6, []) := by decide +kernel
theorem kc_58_37 : xe_code 58 37 = some (.iload 6, []) := by decide +kernel
theorem kc_58_39 : xe_code 58 39 = some (.aload_n 0, []) := by decide +kernel
theorem kc_58_40 : xe_code 58 40 = some (.invokevirtual 262, [43, 0, 1274, 12]) := by decide +kernel
theorem kc_58_43 : xe_code 58 43 = some (.if_icmp .ge 40, [83]) := by decide +kernel
theorem kc_58_46 : xe_code 58 46 = some (.iload 5, []) := by decide +kernel
theorem kc_58_48 : xe_code 58 48 = some (.aload_n 0, []) := by decide +kernel
theorem kc_58_49 : xe_code 58 49 = some (.iload 6, []) := by decide +kernel
theorem kc_58_51 : xe_code 58 51 = some (.invokevirtual 285, [54, 1, 1317, 12]) := by decide +kernel
theorem kc_58_54 : xe_code 58 54 = some (.ifCond .eq 19, [73]) := by decide +kernel
theorem kc_58_57 : xe_code 58 57 = some (.aload_n 0, []) := by decide +kernel
theorem kc_58_58 : xe_code 58 58 = some (.iload 4, []) := by decide +kernel
theorem kc_58_60 : xe_code 58 60 = some (.iload 6, []) := by decide +kernel
theorem kc_58_62 : xe_code 58 62 = some (.invokevirtual 282, [55, 2, 1321, 12]) := by decide +kernel
theorem kc_58_65 : xe_code 58 65 = some (.iconst 1, []) := by decide +kernel
theorem kc_58_66 : xe_code 58 66 = some (.if_icmp .ne 7, [73]) := by decide +kernel
theorem kc_58_69 : xe_code 58 69 = some (.iconst 1, []) := by decide +kernel
theorem kc_58_70 : xe_code 58 70 = some (.goto 4, [74]) := by decide +kernel
theorem kc_58_73 : xe_code 58 73 = some (.iconst 0, []) := by decide +kernel
theorem kc_58_74 : xe_code 58 74 = some (.iadd, []) := by decide +kernel
theorem kc_58_75 : xe_code 58 75 = some (.istore 5, []) := by decide +kernel
theorem kc_58_77 : xe_code 58 77 = some (.iinc 6 1, []) := by decide +kernel
theorem kc_58_80 : xe_code 58 80 = some (.goto (-43), [37]) := by decide +kernel
theorem kc_58_83 : xe_code 58 83 = some (.aload_n 0, []) := by decide +kernel
theorem kc_58_84 : xe_code 58 84 = some (.getfield 127, [12, 47, 994]) := by decide +kernel
theorem kc_58_87 : xe_code 58 87 = some (.iload 4, []) := by decide +kernel
theorem kc_58_89 : xe_code 58 89 = some (.iaload, []) := by decide +kernel
theorem kc_58_90 : xe_code 58 90 = some (.iload 5, []) := by decide +kernel
theorem kc_58_92 : xe_code 58 92 = some (.iload_n 1, []) := by decide +kernel
theorem kc_58_93 : xe_code 58 93 = some (.iload 5, []) := by decide +kernel
theorem kc_58_95 : xe_code 58 95 = some (.isub, []) := by decide +kernel
theorem kc_58_96 : xe_code 58 96 = some (.if_icmp .le 8, [104]) := by decide +kernel
theorem kc_58_99 : xe_code 58 99 = some (.iload 5, []) := by decide +kernel
theorem kc_58_101 : xe_code 58 101 = some (.goto 7, [108]) := by decide +kernel
theorem kc_58_104 : xe_code 58 104 = some (.iload_n 1, []) := by decide +kernel
theorem kc_58_105 : xe_code 58 105 = some (.iload 5, []) := by decide +kernel
theorem kc_58_107 : xe_code 58 107 = some (.isub, []) := by decide +kernel
theorem kc_58_108 : xe_code 58 108 = some (.imul, []) := by decide +kernel
theorem kc_58_109 : xe_code 58 109 = some (.istore 6, []) := by decide +kernel
theorem kc_58_111 : xe_code 58 111 = some (.aload_n 0, []) := by decide +kernel
theorem kc_58_112 : xe_code 58 112 = some (.getfield 130, [12, 48, 995]) := by decide +kernel
theorem kc_58_115 : xe_code 58 115 = some (.iload 4, []) := by decide +kernel
theorem kc_58_117 : xe_code 58 117 = some (.iaload, []) := by decide +kernel
theorem kc_58_118 : xe_code 58 118 = some (.ifCond .ne 19, [137]) := by decide +kernel
theorem kc_58_121 : xe_code 58 121 = some (.iload_n 2, []) := by decide +kernel
theorem kc_58_122 : xe_code 58 122 = some (.ifCond .lt 9, [131]) := by decide +kernel
theorem kc_58_125 : xe_code 58 125 = some (.iload 6, []) := by decide +kernel
theorem kc_58_127 : xe_code 58 127 = some (.iload_n 3, []) := by decide +kernel
theorem kc_58_128 : xe_code 58 128 = some (.if_icmp .ge 9, [137]) := by decide +kernel
theorem kc_58_131 : xe_code 58 131 = some (.iload 4, []) := by decide +kernel
theorem kc_58_133 : xe_code 58 133 = some (.istore_n 2, []) := by decide +kernel
theorem kc_58_134 : xe_code 58 134 = some (.iload 6, []) := by decide +kernel
theorem kc_58_136 : xe_code 58 136 = some (.istore_n 3, []) := by decide +kernel
theorem kc_58_137 : xe_code 58 137 = some (.iinc 4 1, []) := by decide +kernel
theorem kc_58_140 : xe_code 58 140 = some (.goto (-122), [18]) := by decide +kernel
theorem kc_58_143 : xe_code 58 143 = some (.iload_n 2, []) := by decide +kernel
theorem kc_58_144 : xe_code 58 144 = some (.ireturn, []) := by decide +kernel
theorem kc_59_0 : xe_code 59 0 = some (.aload_n 0, []) := by decide +kernel
theorem kc_59_1 : xe_code 59 1 = some (.iconst 0, []) := by decide +kernel
theorem kc_59_2 : xe_code 59 2 = some (.putfield 169, [12, 0, 947]) := by decide +kernel
theorem kc_59_5 : xe_code 59 5 = some (.aload_n 0, []) := by decide +kernel
theorem kc_59_6 : xe_code 59 6 = some (.invokevirtual 270, [44, 0, 1278, 12]) := by decide +kernel
theorem kc_59_9 : xe_code 59 9 = some (.iconst 1, []) := by decide +kernel
theorem kc_59_10 : xe_code 59 10 = some (.istore_n 1, []) := by decide +kernel
theorem kc_59_11 : xe_code 59 11 = some (.iconst 0, []) := by decide +kernel
theorem kc_59_12 : xe_code 59 12 = some (.istore_n 2, []) := by decide +kernel
theorem kc_59_13 : xe_code 59 13 = some (.iconst 0, []) := by decide +kernel
theorem kc_59_14 : xe_code 59 14 = some (.istore_n 3, []) := by decide +kernel
theorem kc_59_15 : xe_code 59 15 = some (.iload_n 3, []) := by decide +kernel
theorem kc_59_16 : xe_code 59 16 = some (.aload_n 0, []) := by decide +kernel
theorem kc_59_17 : xe_code 59 17 = some (.getfield 279, [12, 45, 992]) := by decide +kernel
theorem kc_59_20 : xe_code 59 20 = some (.if_icmp .ge 24, [44]) := by decide +kernel
theorem kc_59_23 : xe_code 59 23 = some (.iload_n 2, []) := by decide +kernel
theorem kc_59_24 : xe_code 59 24 = some (.iload_n 1, []) := by decide +kernel
theorem kc_59_25 : xe_code 59 25 = some (.aload_n 0, []) := by decide +kernel
theorem kc_59_26 : xe_code 59 26 = some (.getfield 130, [12, 48, 995]) := by decide +kernel
theorem kc_59_29 : xe_code 59 29 = some (.iload_n 3, []) := by decide +kernel
theorem kc_59_30 : xe_code 59 30 = some (.iaload, []) := by decide +kernel
theorem kc_59_31 : xe_code 59 31 = some (.imul, []) := by decide +kernel
theorem kc_59_32 : xe_code 59 32 = some (.iadd, []) := by decide +kernel
theorem kc_59_33 : xe_code 59 33 = some (.istore_n 2, []) := by decide +kernel
theorem kc_59_34 : xe_code 59 34 = some (.iload_n 1, []) := by decide +kernel
theorem kc_59_35 : xe_code 59 35 = some (.iconst 3, []) := by decide +kernel
theorem kc_59_36 : xe_code 59 36 = some (.imul, []) := by decide +kernel
theorem kc_59_37 : xe_code 59 37 = some (.istore_n 1, []) := by decide +kernel
theorem kc_59_38 : xe_code 59 38 = some (.iinc 3 1, []) := by decide +kernel
theorem kc_59_41 : xe_code 59 41 = some (.goto (-26), [15]) := by decide +kernel
theorem kc_59_44 : xe_code 59 44 = some (.iload_n 1, []) := by decide +kernel
theorem kc_59_45 : xe_code 59 45 = some (.iconst 1, []) := by decide +kernel
theorem kc_59_46 : xe_code 59 46 = some (.isub, []) := by decide +kernel
theorem kc_59_47 : xe_code 59 47 = some (.istore_n 3, []) := by decide +kernel
theorem kc_59_48 : xe_code 59 48 = some (.iload_n 3, []) := by decide +kernel
theorem kc_59_49 : xe_code 59 49 = some (.iload_n 2, []) := by decide +kernel
theorem kc_59_50 : xe_code 59 50 = some (.if_icmp .lt 144, [194]) := by decide +kernel
theorem kc_59_53 : xe_code 59 53 = some (.iconst (-1), []) := by decide +kernel
theorem kc_59_54 : xe_code 59 54 = some (.istore 4, []) := by decide +kernel
theorem kc_59_56 : xe_code 59 56 = some (.iconst 1, []) := by decide +kernel
theorem kc_59_57 : xe_code 59 57 = some (.istore 5, []) := by decide +kernel
theorem kc_59_59 : xe_code 59 59 = some (.iconst 0, []) := by decide +kernel
theorem kc_59_60 : xe_code 59 60 = some (.istore 6, []) := by decide +kernel
theorem kc_59_62 : xe_code 59 62 = some (.iload 6, []) := by decide +kernel
theorem kc_59_64 : xe_code 59 64 = some (.aload_n 0, []) := by decide +kernel
theorem kc_59_65 : xe_code 59 65 = some (.getfield 279, [12, 45, 992]) := by decide +kernel
theorem kc_59_68 : xe_code 59 68 = some (.if_icmp .ge 103, [171]) := by decide +kernel
theorem kc_59_71 : xe_code 59 71 = some (.iload_n 3, []) := by decide +kernel
theorem kc_59_72 : xe_code 59 72 = some (.iload 5, []) := by decide +kernel
theorem kc_59_74 : xe_code 59 74 = some (.idiv, []) := by decide +kernel
theorem kc_59_75 : xe_code 59 75 = some (.iconst 3, []) := by decide +kernel
theorem kc_59_76 : xe_code 59 76 = some (.irem, []) := by decide +kernel
theorem kc_59_77 : xe_code 59 77 = some (.ifCond .ne 82, [159]) := by decide +kernel
theorem kc_59_80 : xe_code 59 80 = some (.aload_n 0, []) := by decide +kernel
theorem kc_59_81 : xe_code 59 81 = some (.iload_n 3, []) := by decide +kernel
theorem kc_59_82 : xe_code 59 82 = some (.iload 6, []) := by decide +kernel
theorem kc_59_84 : xe_code 59 84 = some (.invokevirtual 291, [60, 2, 1341, 12]) := by decide +kernel
theorem kc_59_87 : xe_code 59 87 = some (.ifCond .eq 72, [159]) := by decide +kernel
theorem kc_59_90 : xe_code 59 90 = some (.aload_n 0, []) := by decide +kernel
theorem kc_59_91 : xe_code 59 91 = some (.getfield 133, [12, 49, 996]) := by decide +kernel
theorem kc_59_94 : xe_code 59 94 = some (.iload_n 3, []) := by decide +kernel
theorem kc_59_95 : xe_code 59 95 = some (.iload 5, []) := by decide +kernel
theorem kc_59_97 : xe_code 59 97 = some (.iadd, []) := by decide +kernel
theorem kc_59_98 : xe_code 59 98 = some (.iaload, []) := by decide +kernel
theorem kc_59_99 : xe_code 59 99 = some (.istore 7, []) := by decide +kernel
theorem kc_59_101 : xe_code 59 101 = some (.aload_n 0, []) := by decide +kernel
theorem kc_59_102 : xe_code 59 102 = some (.getfield 133, [12, 49, 996]) := by decide +kernel
theorem kc_59_105 : xe_code 59 105 = some (.iload_n 3, []) := by decide +kernel
theorem kc_59_106 : xe_code 59 106 = some (.iconst 2, []) := by decide +kernel
theorem kc_59_107 : xe_code 59 107 = some (.iload 5, []) := by decide +kernel
theorem kc_59_109 : xe_code 59 109 = some (.imul, []) := by decide +kernel
theorem kc_59_110 : xe_code 59 110 = some (.iadd, []) := by decide +kernel
theorem kc_59_111 : xe_code 59 111 = some (.iaload, []) := by decide +kernel
theorem kc_59_112 : xe_code 59 112 = some (.istore 8, []) := by decide +kernel
theorem kc_59_114 : xe_code 59 114 = some (.aload_n 0, []) := by decide +kernel
theorem kc_59_115 : xe_code 59 115 = some (.getfield 127, [12, 47, 994]) := by decide +kernel
theorem kc_59_118 : xe_code 59 118 = some (.iload 6, []) := by decide +kernel
theorem kc_59_120 : xe_code 59 120 = some (.iaload, []) := by decide +kernel
theorem kc_59_121 : xe_code 59 121 = some (.iload 7, []) := by decide +kernel
theorem kc_59_123 : xe_code 59 123 = some (.iload 8, []) := by decide +kernel
theorem kc_59_125 : xe_code 59 125 = some (.if_icmp .le 8, [133]) := by decide +kernel
theorem kc_59_128 : xe_code 59 128 = some (.iload 7, []) := by decide +kernel
theorem kc_59_130 : xe_code 59 130 = some (.goto 5, [135]) := by decide +kernel
theorem kc_59_133 : xe_code 59 133 = some (.iload 8, []) := by decide +kernel
theorem kc_59_135 : xe_code 59 135 = some (.iadd, []) := by decide +kernel
theorem kc_59_136 : xe_code 59 136 = some (.istore 9, []) := by decide +kernel
theorem kc_59_138 : xe_code 59 138 = some (.iload 4, []) := by decide +kernel
theorem kc_59_140 : xe_code 59 140 = some (.ifCond .lt 10, [150]) := by decide +kernel
theorem kc_59_143 : xe_code 59 143 = some (.iload 9, []) := by decide +kernel
theorem kc_59_145 : xe_code 59 145 = some (.iload 4, []) := by decide +kernel
theorem kc_59_147 : xe_code 59 147 = some (.if_icmp .ge 8, [155]) := by decide +kernel
theorem kc_59_150 : xe_code 59 150 = some (.iload 9, []) := by decide +kernel
theorem kc_59_152 : xe_code 59 152 = some (.goto 5, [157]) := by decide +kernel
theorem kc_59_155 : xe_code 59 155 = some (.iload 4, []) := by decide +kernel
theorem kc_59_157 : xe_code 59 157 = some (.istore 4, []) := by decide +kernel
theorem kc_59_159 : xe_code 59 159 = some (.iload 5, []) := by decide +kernel
theorem kc_59_161 : xe_code 59 161 = some (.iconst 3, []) := by decide +kernel
theorem kc_59_162 : xe_code 59 162 = some (.imul, []) := by decide +kernel
theorem kc_59_163 : xe_code 59 163 = some (.istore 5, []) := by decide +kernel
theorem kc_59_165 : xe_code 59 165 = some (.iinc 6 1, []) := by decide +kernel
theorem kc_59_168 : xe_code 59 168 = some (.goto (-106), [62]) := by decide +kernel
theorem kc_59_171 : xe_code 59 171 = some (.aload_n 0, []) := by decide +kernel
theorem kc_59_172 : xe_code 59 172 = some (.getfield 133, [12, 49, 996]) := by decide +kernel
theorem kc_59_175 : xe_code 59 175 = some (.iload_n 3, []) := by decide +kernel
theorem kc_59_176 : xe_code 59 176 = some (.iload 4, []) := by decide +kernel
theorem kc_59_178 : xe_code 59 178 = some (.ifCond .ge 7, [185]) := by decide +kernel
theorem kc_59_181 : xe_code 59 181 = some (.iconst 0, []) := by decide +kernel
theorem kc_59_182 : xe_code 59 182 = some (.goto 5, [187]) := by decide +kernel
theorem kc_59_185 : xe_code 59 185 = some (.iload 4, []) := by decide +kernel
theorem kc_59_187 : xe_code 59 187 = some (.iastore, []) := by decide +kernel
theorem kc_59_188 : xe_code 59 188 = some (.iinc 3 (-1), []) := by decide +kernel
theorem kc_59_191 : xe_code 59 191 = some (.goto (-143), [48]) := by decide +kernel
theorem kc_59_194 : xe_code 59 194 = some (.aload_n 0, []) := by decide +kernel
theorem kc_59_195 : xe_code 59 195 = some (.getfield 133, [12, 49, 996]) := by decide +kernel
theorem kc_59_198 : xe_code 59 198 = some (.iload_n 2, []) := by decide +kernel
theorem kc_59_199 : xe_code 59 199 = some (.iaload, []) := by decide +kernel
theorem kc_59_200 : xe_code 59 200 = some (.ireturn, []) := by decide +kernel
theorem kc_60_0 : xe_code 60 0 = some (.iconst 0, []) := by decide +kernel
theorem kc_60_1 : xe_code 60 1 = some (.istore_n 3, []) := by decide +kernel
theorem kc_60_2 : xe_code 60 2 = some (.iconst 0, []) := by decide +kernel
theorem kc_60_3 : xe_code 60 3 = some (.istore 4, []) := by decide +kernel
theorem kc_60_5 : xe_code 60 5 = some (.iconst 0, []) := by decide +kernel
theorem kc_60_6 : xe_code 60 6 = some (.istore 5, []) := by decide +kernel
theorem kc_60_8 : xe_code 60 8 = some (.iload 5, []) := by decide +kernel
theorem kc_60_10 : xe_code 60 10 = some (.aload_n 0, []) := by decide +kernel
theorem kc_60_11 : xe_code 60 11 = some (.invokevirtual 262, [43, 0, 1274, 12]) := by decide +kernel
theorem kc_60_14 : xe_code 60 14 = some (.if_icmp .ge 72, [86]) := by decide +kernel
theorem kc_60_17 : xe_code 60 17 = some (.iload_n 3, []) := by decide +kernel
theorem kc_60_18 : xe_code 60 18 = some (.ifCond .eq 8, [26]) := by decide +kernel
theorem kc_60_21 : xe_code 60 21 = some (.iload 4, []) := by decide +kernel
theorem kc_60_23 : xe_code 60 23 = some (.ifCond .ne 63, [86]) := by decide +kernel
theorem kc_60_26 : xe_code 60 26 = some (.aload_n 0, []) := by decide +kernel
theorem kc_60_27 : xe_code 60 27 = some (.iload 5, []) := by decide +kernel
theorem kc_60_29 : xe_code 60 29 = some (.iload_n 1, []) := by decide +kernel
theorem kc_60_30 : xe_code 60 30 = some (.invokevirtual 295, [61, 2, 1345, 12]) := by decide +kernel
theorem kc_60_33 : xe_code 60 33 = some (.ifCond .eq 47, [80]) := by decide +kernel
theorem kc_60_36 : xe_code 60 36 = some (.iload_n 3, []) := by decide +kernel
theorem kc_60_37 : xe_code 60 37 = some (.ifCond .ne 14, [51]) := by decide +kernel
theorem kc_60_40 : xe_code 60 40 = some (.aload_n 0, []) := by decide +kernel
theorem kc_60_41 : xe_code 60 41 = some (.iload_n 2, []) := by decide +kernel
theorem kc_60_42 : xe_code 60 42 = some (.iload 5, []) := by decide +kernel
theorem kc_60_44 : xe_code 60 44 = some (.invokevirtual 282, [55, 2, 1321, 12]) := by decide +kernel
theorem kc_60_47 : xe_code 60 47 = some (.iconst 1, []) := by decide +kernel
theorem kc_60_48 : xe_code 60 48 = some (.if_icmp .ne 7, [55]) := by decide +kernel
theorem kc_60_51 : xe_code 60 51 = some (.iconst 1, []) := by decide +kernel
theorem kc_60_52 : xe_code 60 52 = some (.goto 4, [56]) := by decide +kernel
theorem kc_60_55 : xe_code 60 55 = some (.iconst 0, []) := by decide +kernel
theorem kc_60_56 : xe_code 60 56 = some (.istore_n 3, []) := by decide +kernel
theorem kc_60_57 : xe_code 60 57 = some (.iload 4, []) := by decide +kernel
theorem kc_60_59 : xe_code 60 59 = some (.ifCond .ne 14, [73]) := by decide +kernel
theorem kc_60_62 : xe_code 60 62 = some (.aload_n 0, []) := by decide +kernel
theorem kc_60_63 : xe_code 60 63 = some (.iload_n 2, []) := by decide +kernel
theorem kc_60_64 : xe_code 60 64 = some (.iload 5, []) := by decide +kernel
theorem kc_60_66 : xe_code 60 66 = some (.invokevirtual 282, [55, 2, 1321, 12]) := by decide +kernel
theorem kc_60_69 : xe_code 60 69 = some (.iconst 2, []) := by decide +kernel
theorem kc_60_70 : xe_code 60 70 = some (.if_icmp .ne 7, [77]) := by decide +kernel
theorem kc_60_73 : xe_code 60 73 = some (.iconst 1, []) := by decide +kernel
theorem kc_60_74 : xe_code 60 74 = some (.goto 4, [78]) := by decide +kernel
theorem kc_60_77 : xe_code 60 77 = some (.iconst 0, []) := by decide +kernel
theorem kc_60_78 : xe_code 60 78 = some (.istore 4, []) := by decide +kernel
theorem kc_60_80 : xe_code 60 80 = some (.iinc 5 1, []) := by decide +kernel
theorem kc_60_83 : xe_code 60 83 = some (.goto (-75), [8]) := by decide +kernel
theorem kc_60_86 : xe_code 60 86 = some (.iload_n 3, []) := by decide +kernel
theorem kc_60_87 : xe_code 60 87 = some (.ifCond .eq 12, [99]) := by decide +kernel
theorem kc_60_90 : xe_code 60 90 = some (.iload 4, []) := by decide +kernel
theorem kc_60_92 : xe_code 60 92 = some (.ifCond .eq 7, [99]) := by decide +kernel
theorem kc_60_95 : xe_code 60 95 = some (.iconst 1, []) := by decide +kernel
theorem kc_60_96 : xe_code 60 96 = some (.goto 4, [100]) := by decide +kernel
theorem kc_60_99 : xe_code 60 99 = some (.iconst 0, []) := by decide +kernel
theorem kc_60_100 : xe_code 60 100 = some (.ireturn, []) := by decide +kernel
theorem kc_61_0 : xe_code 61 0 = some (.iload_n 2, []) := by decide +kernel
theorem kc_61_1 : xe_code 61 1 = some (.istore_n 3, []) := by decide +kernel
theorem kc_61_2 : xe_code 61 2 = some (.aload_n 0, []) := by decide +kernel
theorem kc_61_3 : xe_code 61 3 = some (.iload_n 1, []) := by decide +kernel
theorem kc_61_4 : xe_code 61 4 = some (.invokevirtual 285, [54, 1, 1317, 12]) := by decide +kernel
theorem kc_61_7 : xe_code 61 7 = some (.istore 4, []) := by decide +kernel
theorem kc_61_9 : xe_code 61 9 = some (.iconst 0, []) := by decide +kernel
theorem kc_61_10 : xe_code 61 10 = some (.istore 5, []) := by decide +kernel
theorem kc_61_12 : xe_code 61 12 = some (.iload 5, []) := by decide +kernel
theorem kc_61_14 : xe_code 61 14 = some (.aload_n 0, []) := by decide +kernel
theorem kc_61_15 : xe_code 61 15 = some (.getfield 279, [12, 45, 992]) := by decide +kernel
theorem kc_61_18 : xe_code 61 18 = some (.if_icmp .ge 44, [62]) := by decide +kernel
theorem kc_61_21 : xe_code 61 21 = some (.iload 4, []) := by decide +kernel
theorem kc_61_23 : xe_code 61 23 = some (.ifCond .eq 39, [62]) := by decide +kernel
theorem kc_61_26 : xe_code 61 26 = some (.iload_n 3, []) := by decide +kernel
theorem kc_61_27 : xe_code 61 27 = some (.iconst 3, []) := by decide +kernel
theorem kc_61_28 : xe_code 61 28 = some (.irem, []) := by decide +kernel
theorem kc_61_29 : xe_code 61 29 = some (.ifCond .eq 16, [45]) := by decide +kernel
theorem kc_61_32 : xe_code 61 32 = some (.iload_n 3, []) := by decide +kernel
theorem kc_61_33 : xe_code 61 33 = some (.iconst 3, []) := by decide +kernel
theorem kc_61_34 : xe_code 61 34 = some (.irem, []) := by decide +kernel
theorem kc_61_35 : xe_code 61 35 = some (.aload_n 0, []) := by decide +kernel
theorem kc_61_36 : xe_code 61 36 = some (.iload 5, []) := by decide +kernel
theorem kc_61_38 : xe_code 61 38 = some (.iload_n 1, []) := by decide +kernel
theorem kc_61_39 : xe_code 61 39 = some (.invokevirtual 282, [55, 2, 1321, 12]) := by decide +kernel
theorem kc_61_42 : xe_code 61 42 = some (.if_icmp .ne 7, [49]) := by decide +kernel
theorem kc_61_45 : xe_code 61 45 = some (.iconst 1, []) := by decide +kernel
theorem kc_61_46 : xe_code 61 46 = some (.goto 4, [50]) := by decide +kernel
theorem kc_61_49 : xe_code 61 49 = some (.iconst 0, []) := by decide +kernel
theorem kc_61_50 : xe_code 61 50 = some (.istore 4, []) := by decide +kernel
theorem kc_61_52 : xe_code 61 52 = some (.iload_n 3, []) := by decide +kernel
theorem kc_61_53 : xe_code 61 53 = some (.iconst 3, []) := by decide +kernel
theorem kc_61_54 : xe_code 61 54 = some (.idiv, []) := by decide +kernel
theorem kc_61_55 : xe_code 61 55 = some (.istore_n 3, []) := by decide +kernel
theorem kc_61_56 : xe_code 61 56 = some (.iinc 5 1, []) := by decide +kernel
theorem kc_61_59 : xe_code 61 59 = some (.goto (-47), [12]) := by decide +kernel
theorem kc_61_62 : xe_code 61 62 = some (.iload 4, []) := by decide +kernel
theorem kc_61_64 : xe_code 61 64 = some (.ireturn, []) := by decide +kernel
theorem kc_62_0 : xe_code 62 0 = some (.aload_n 0, []) := by decide +kernel
theorem kc_62_1 : xe_code 62 1 = some (.iconst 0, []) := by decide +kernel
theorem kc_62_2 : xe_code 62 2 = some (.putfield 169, [12, 0, 947]) := by decide +kernel
theorem kc_62_5 : xe_code 62 5 = some (.iload_n 1, []) := by decide +kernel
theorem kc_62_6 : xe_code 62 6 = some (.invokestatic 185, [11, 1, 1149, 12]) := by decide +kernel
theorem kc_62_9 : xe_code 62 9 = some (.ifCond .ne 9, [18]) := by decide +kernel
theorem kc_62_12 : xe_code 62 12 = some (.aload_n 0, []) := by decide +kernel
theorem kc_62_13 : xe_code 62 13 = some (.iconst (-1), []) := by decide +kernel
theorem kc_62_14 : xe_code 62 14 = some (.invokevirtual 188, [13, 1, 1155, 12]) := by decide +kernel
theorem kc_62_17 : xe_code 62 17 = some (.ireturn, []) := by decide +kernel
theorem kc_62_18 : xe_code 62 18 = some (.iload_n 2, []) := by decide +kernel
theorem kc_62_19 : xe_code 62 19 = some (.iconst 0, []) := by decide +kernel
theorem kc_62_20 : xe_code 62 20 = some (.iconst 1, []) := by decide +kernel
theorem kc_62_21 : xe_code 62 21 = some (.invokestatic 173, [12, 3, 1152, 12]) := by decide +kernel
theorem kc_62_24 : xe_code 62 24 = some (.ifCond .ne 10, [34]) := by decide +kernel
theorem kc_62_27 : xe_code 62 27 = some (.aload_n 0, []) := by decide +kernel
theorem kc_62_28 : xe_code 62 28 = some (.bipush (-2), []) := by decide +kernel
theorem kc_62_30 : xe_code 62 30 = some (.invokevirtual 188, [13, 1, 1155, 12]) := by decide +kernel
theorem kc_62_33 : xe_code 62 33 = some (.ireturn, []) := by decide +kernel
theorem kc_62_34 : xe_code 62 34 = some (.iconst 0, []) := by decide +kernel
theorem kc_62_35 : xe_code 62 35 = some (.istore 6, []) := by decide +kernel
theorem kc_62_37 : xe_code 62 37 = some (.iload 6, []) := by decide +kernel
theorem kc_62_39 : xe_code 62 39 = some (.aload_n 0, []) := by decide +kernel
theorem kc_62_40 : xe_code 62 40 = some (.getfield 249, [12, 34, 981]) := by decide +kernel
theorem kc_62_43 : xe_code 62 43 = some (.if_icmp .ge 51, [94]) := by decide +kernel
theorem kc_62_46 : xe_code 62 46 = some (.aload_n 0, []) := by decide +kernel
theorem kc_62_47 : xe_code 62 47 = some (.getfield 96, [12, 35, 982]) := by decide +kernel
theorem kc_62_50 : xe_code 62 50 = some (.iload 6, []) := by decide +kernel
theorem kc_62_52 : xe_code 62 52 = some (.iaload, []) := by decide +kernel
theorem kc_62_53 : xe_code 62 53 = some (.iload_n 1, []) := by decide +kernel
theorem kc_62_54 : xe_code 62 54 = some (.if_icmp .ne 34, [88]) := by decide +kernel
theorem kc_62_57 : xe_code 62 57 = some (.iload 4, []) := by decide +kernel
theorem kc_62_59 : xe_code 62 59 = some (.aload_n 0, []) := by decide +kernel
theorem kc_62_60 : xe_code 62 60 = some (.getfield 108, [12, 39, 986]) := by decide +kernel
theorem kc_62_63 : xe_code 62 63 = some (.iload 6, []) := by decide +kernel
theorem kc_62_65 : xe_code 62 65 = some (.iaload, []) := by decide +kernel
theorem kc_62_66 : xe_code 62 66 = some (.if_icmp .ge 22, [88]) := by decide +kernel
theorem kc_62_69 : xe_code 62 69 = some (.iload 5, []) := by decide +kernel
theorem kc_62_71 : xe_code 62 71 = some (.aload_n 0, []) := by decide +kernel
theorem kc_62_72 : xe_code 62 72 = some (.getfield 105, [12, 38, 985]) := by decide +kernel
theorem kc_62_75 : xe_code 62 75 = some (.iload 6, []) := by decide +kernel
theorem kc_62_77 : xe_code 62 77 = some (.iaload, []) := by decide +kernel
theorem kc_62_78 : xe_code 62 78 = some (.if_icmp .le 10, [88]) := by decide +kernel
theorem kc_62_81 : xe_code 62 81 = some (.aload_n 0, []) := by decide +kernel
theorem kc_62_82 : xe_code 62 82 = some (.bipush (-3), []) := by decide +kernel
theorem kc_62_84 : xe_code 62 84 = some (.invokevirtual 188, [13, 1, 1155, 12]) := by decide +kernel
theorem kc_62_87 : xe_code 62 87 = some (.ireturn, []) := by decide +kernel
theorem kc_62_88 : xe_code 62 88 = some (.iinc 6 1, []) := by decide +kernel
theorem kc_62_91 : xe_code 62 91 = some (.goto (-54), [37]) := by decide +kernel
theorem kc_62_94 : xe_code 62 94 = some (.iload_n 3, []) := by decide +kernel
theorem kc_62_95 : xe_code 62 95 = some (.ifCond .lt 19, [114]) := by decide +kernel
theorem kc_62_98 : xe_code 62 98 = some (.iload 4, []) := by decide +kernel
theorem kc_62_100 : xe_code 62 100 = some (.aload_n 0, []) := by decide +kernel
theorem kc_62_101 : xe_code 62 101 = some (.getfield 213, [12, 1, 948]) := by decide +kernel
theorem kc_62_104 : xe_code 62 104 = some (.if_icmp .lt 10, [114]) := by decide +kernel
theorem kc_62_107 : xe_code 62 107 = some (.iload 5, []) := by decide +kernel
theorem kc_62_109 : xe_code 62 109 = some (.iload 4, []) := by decide +kernel
theorem kc_62_111 : xe_code 62 111 = some (.if_icmp .gt 10, [121]) := by decide +kernel
theorem kc_62_114 : xe_code 62 114 = some (.aload_n 0, []) := by decide +kernel
theorem kc_62_115 : xe_code 62 115 = some (.bipush (-4), []) := by decide +kernel
theorem kc_62_117 : xe_code 62 117 = some (.invokevirtual 188, [13, 1, 1155, 12]) := by decide +kernel
theorem kc_62_120 : xe_code 62 120 = some (.ireturn, []) := by decide +kernel
theorem kc_62_121 : xe_code 62 121 = some (.iload 5, []) := by decide +kernel
theorem kc_62_123 : xe_code 62 123 = some (.sipush 600, []) := by decide +kernel
theorem kc_62_126 : xe_code 62 126 = some (.if_icmp .gt 18, [144]) := by decide +kernel
theorem kc_62_129 : xe_code 62 129 = some (.iload_n 3, []) := by decide +kernel
theorem kc_62_130 : xe_code 62 130 = some (.bipush 50, []) := by decide +kernel
theorem kc_62_132 : xe_code 62 132 = some (.if_icmp .gt 12, [144]) := by decide +kernel
theorem kc_62_135 : xe_code 62 135 = some (.aload_n 0, []) := by decide +kernel
theorem kc_62_136 : xe_code 62 136 = some (.getfield 249, [12, 34, 981]) := by decide +kernel
theorem kc_62_139 : xe_code 62 139 = some (.bipush 20, []) := by decide +kernel
theorem kc_62_141 : xe_code 62 141 = some (.if_icmp .ne 10, [151]) := by decide +kernel
theorem kc_62_144 : xe_code 62 144 = some (.aload_n 0, []) := by decide +kernel
theorem kc_62_145 : xe_code 62 145 = some (.bipush (-6), []) := by decide +kernel
theorem kc_62_147 : xe_code 62 147 = some (.invokevirtual 188, [13, 1, 1155, 12]) := by decide +kernel
theorem kc_62_150 : xe_code 62 150 = some (.ireturn, []) := by decide +kernel
theorem kc_62_151 : xe_code 62 151 = some (.aload_n 0, []) := by decide +kernel
theorem kc_62_152 : xe_code 62 152 = some (.getfield 96, [12, 35, 982]) := by decide +kernel
theorem kc_62_155 : xe_code 62 155 = some (.aload_n 0, []) := by decide +kernel
theorem kc_62_156 : xe_code 62 156 = some (.getfield 249, [12, 34, 981]) := by decide +kernel
theorem kc_62_159 : xe_code 62 159 = some (.iload_n 1, []) := by decide +kernel
theorem kc_62_160 : xe_code 62 160 = some (.iastore, []) := by decide +kernel
theorem kc_62_161 : xe_code 62 161 = some (.aload_n 0, []) := by decide +kernel
theorem kc_62_162 : xe_code 62 162 = some (.getfield 99, [12, 36, 983]) := by decide +kernel
theorem kc_62_165 : xe_code 62 165 = some (.aload_n 0, []) := by decide +kernel
theorem kc_62_166 : xe_code 62 166 = some (.getfield 249, [12, 34, 981]) := by decide +kernel
theorem kc_62_169 : xe_code 62 169 = some (.iload_n 2, []) := by decide +kernel
theorem kc_62_170 : xe_code 62 170 = some (.iastore, []) := by decide +kernel
theorem kc_62_171 : xe_code 62 171 = some (.aload_n 0, []) := by decide +kernel
theorem kc_62_172 : xe_code 62 172 = some (.getfield 102, [12, 37, 984]) := by decide +kernel
theorem kc_62_175 : xe_code 62 175 = some (.aload_n 0, []) := by decide +kernel
theorem kc_62_176 : xe_code 62 176 = some (.getfield 249, [12, 34, 981]) := by decide +kernel
theorem kc_62_179 : xe_code 62 179 = some (.iload_n 3, []) := by decide +kernel
theorem kc_62_180 : xe_code 62 180 = some (.iastore, []) := by decide +kernel
theorem kc_62_181 : xe_code 62 181 = some (.aload_n 0, []) := by decide +kernel
theorem kc_62_182 : xe_code 62 182 = some (.getfield 105, [12, 38, 985]) := by decide +kernel
theorem kc_62_185 : xe_code 62 185 = some (.aload_n 0, []) := by decide +kernel
theorem kc_62_186 : xe_code 62 186 = some (.getfield 249, [12, 34, 981]) := by decide +kernel
theorem kc_62_189 : xe_code 62 189 = some (.iload 4, []) := by decide +kernel
theorem kc_62_191 : xe_code 62 191 = some (.iastore, []) := by decide +kernel
theorem kc_62_192 : xe_code 62 192 = some (.aload_n 0, []) := by decide +kernel
theorem kc_62_193 : xe_code 62 193 = some (.getfield 108, [12, 39, 986]) := by decide +kernel
theorem kc_62_196 : xe_code 62 196 = some (.aload_n 0, []) := by decide +kernel
theorem kc_62_197 : xe_code 62 197 = some (.getfield 249, [12, 34, 981]) := by decide +kernel
theorem kc_62_200 : xe_code 62 200 = some (.iload 5, []) := by decide +kernel
theorem kc_62_202 : xe_code 62 202 = some (.iastore, []) := by decide +kernel
theorem kc_62_203 : xe_code 62 203 = some (.aload_n 0, []) := by decide +kernel
theorem kc_62_204 : xe_code 62 204 = some (.dup, []) := by decide +kernel
theorem kc_62_205 : xe_code 62 205 = some (.getfield 249, [12, 34, 981]) := by decide +kernel
theorem kc_62_208 : xe_code 62 208 = some (.iconst 1, []) := by decide +kernel
theorem kc_62_209 : xe_code 62 209 = some (.iadd, []) := by decide +kernel
theorem kc_62_210 : xe_code 62 210 = some (.putfield 249, [12, 34, 981]) := by decide +kernel
theorem kc_62_213 : xe_code 62 213 = some (.aload_n 0, []) := by decide +kernel
theorem kc_62_214 : xe_code 62 214 = some (.getfield 249, [12, 34, 981]) := by decide +kernel
theorem kc_62_217 : xe_code 62 217 = some (.iconst 1, []) := by decide +kernel
theorem kc_62_218 : xe_code 62 218 = some (.isub, []) := by decide +kernel
theorem kc_62_219 : xe_code 62 219 = some (.ireturn, []) := by decide +kernel
theorem kc_63_0 : xe_code 63 0 = some (.aload_n 0, []) := by decide +kernel
theorem kc_63_1 : xe_code 63 1 = some (.iconst 0, []) := by decide +kernel
theorem kc_63_2 : xe_code 63 2 = some (.putfield 169, [12, 0, 947]) := by decide +kernel
theorem kc_63_5 : xe_code 63 5 = some (.iload_n 1, []) := by decide +kernel
theorem kc_63_6 : xe_code 63 6 = some (.iconst 0, []) := by decide +kernel
theorem kc_63_7 : xe_code 63 7 = some (.aload_n 0, []) := by decide +kernel
theorem kc_63_8 : xe_code 63 8 = some (.getfield 249, [12, 34, 981]) := by decide +kernel
theorem kc_63_11 : xe_code 63 11 = some (.iconst 1, []) := by decide +kernel
theorem kc_63_12 : xe_code 63 12 = some (.isub, []) := by decide +kernel
theorem kc_63_13 : xe_code 63 13 = some (.invokestatic 173, [12, 3, 1152, 12]) := by decide +kernel
theorem kc_63_16 : xe_code 63 16 = some (.ifCond .ne 9, [25]) := by decide +kernel
theorem kc_63_19 : xe_code 63 19 = some (.aload_n 0, []) := by decide +kernel
theorem kc_63_20 : xe_code 63 20 = some (.iconst (-1), []) := by decide +kernel
theorem kc_63_21 : xe_code 63 21 = some (.invokevirtual 188, [13, 1, 1155, 12]) := by decide +kernel
theorem kc_63_24 : xe_code 63 24 = some (.ireturn, []) := by decide +kernel
theorem kc_63_25 : xe_code 63 25 = some (.iload_n 2, []) := by decide +kernel
theorem kc_63_26 : xe_code 63 26 = some (.iconst 0, []) := by decide +kernel
theorem kc_63_27 : xe_code 63 27 = some (.iconst 2, []) := by decide +kernel
theorem kc_63_28 : xe_code 63 28 = some (.invokestatic 173, [12, 3, 1152, 12]) := by decide +kernel
theorem kc_63_31 : xe_code 63 31 = some (.ifCond .ne 10, [41]) := by decide +kernel
theorem kc_63_34 : xe_code 63 34 = some (.aload_n 0, []) := by decide +kernel
theorem kc_63_35 : xe_code 63 35 = some (.bipush (-2), []) := by decide +kernel
theorem kc_63_37 : xe_code 63 37 = some (.invokevirtual 188, [13, 1, 1155, 12]) := by decide +kernel
theorem kc_63_40 : xe_code 63 40 = some (.ireturn, []) := by decide +kernel
theorem kc_63_41 : xe_code 63 41 = some (.aload_n 0, []) := by decide +kernel
theorem kc_63_42 : xe_code 63 42 = some (.getfield 108, [12, 39, 986]) := by decide +kernel
theorem kc_63_45 : xe_code 63 45 = some (.iload_n 1, []) := by decide +kernel
theorem kc_63_46 : xe_code 63 46 = some (.iaload, []) := by decide +kernel
theorem kc_63_47 : xe_code 63 47 = some (.aload_n 0, []) := by decide +kernel
theorem kc_63_48 : xe_code 63 48 = some (.getfield 213, [12, 1, 948]) := by decide +kernel
theorem kc_63_51 : xe_code 63 51 = some (.if_icmp .le 10, [61]) := by decide +kernel
theorem kc_63_54 : xe_code 63 54 = some (.aload_n 0, []) := by decide +kernel
theorem kc_63_55 : xe_code 63 55 = some (.bipush (-3), []) := by decide +kernel
theorem kc_63_57 : xe_code 63 57 = some (.invokevirtual 188, [13, 1, 1155, 12]) := by decide +kernel
theorem kc_63_60 : xe_code 63 60 = some (.ireturn, []) := by decide +kernel
theorem kc_63_61 : xe_code 63 61 = some (.aload_n 0, []) := by decide +kernel
theorem kc_63_62 : xe_code 63 62 = some (.getfield 105, [12, 38, 985]) := by decide +kernel
theorem kc_63_65 : xe_code 63 65 = some (.iload_n 1, []) := by decide +kernel
theorem kc_63_66 : xe_code 63 66 = some (.iaload, []) := by decide +kernel
theorem kc_63_67 : xe_code 63 67 = some (.istore_n 3, []) := by decide +kernel
theorem kc_63_68 : xe_code 63 68 = some (.iconst 2, []) := by decide +kernel
theorem kc_63_69 : xe_code 63 69 = some (.iload_n 3, []) := by decide +kernel
theorem kc_63_70 : xe_code 63 70 = some (.imul, []) := by decide +kernel
theorem kc_63_71 : xe_code 63 71 = some (.aload_n 0, []) := by decide +kernel
theorem kc_63_72 : xe_code 63 72 = some (.getfield 108, [12, 39, 986]) := by decide +kernel
theorem kc_63_75 : xe_code 63 75 = some (.iload_n 1, []) := by decide +kernel
theorem kc_63_76 : xe_code 63 76 = some (.iaload, []) := by decide +kernel
theorem kc_63_77 : xe_code 63 77 = some (.isub, []) := by decide +kernel
theorem kc_63_78 : xe_code 63 78 = some (.istore 4, []) := by decide +kernel
theorem kc_63_80 : xe_code 63 80 = some (.aload_n 0, []) := by decide +kernel
theorem kc_63_81 : xe_code 63 81 = some (.aload_n 0, []) := by decide +kernel
theorem kc_63_82 : xe_code 63 82 = some (.getfield 96, [12, 35, 982]) := by decide +kernel
theorem kc_63_85 : xe_code 63 85 = some (.iload_n 1, []) := by decide +kernel
theorem kc_63_86 : xe_code 63 86 = some (.iaload, []) := by decide +kernel
theorem kc_63_87 : xe_code 63 87 = some (.iload_n 3, []) := by decide +kernel
theorem kc_63_88 : xe_code 63 88 = some (.aload_n 0, []) := by decide +kernel
theorem kc_63_89 : xe_code 63 89 = some (.getfield 108, [12, 39, 986]) := by decide +kernel
theorem kc_63_92 : xe_code 63 92 = some (.iload_n 1, []) := by decide +kernel
theorem kc_63_93 : xe_code 63 93 = some (.iaload, []) := by decide +kernel
theorem kc_63_94 : xe_code 63 94 = some (.invokevirtual 298, [64, 3, 1357, 12]) := by decide +kernel
theorem kc_63_97 : xe_code 63 97 = some (.istore 5, []) := by decide +kernel
theorem kc_63_99 : xe_code 63 99 = some (.aload_n 0, []) := by decide +kernel
theorem kc_63_100 : xe_code 63 100 = some (.aload_n 0, []) := by decide +kernel
theorem kc_63_101 : xe_code 63 101 = some (.getfield 96, [12, 35, 982]) := by decide +kernel
theorem kc_63_104 : xe_code 63 104 = some (.iload_n 1, []) := by decide +kernel
theorem kc_63_105 : xe_code 63 105 = some (.iaload, []) := by decide +kernel
theorem kc_63_106 : xe_code 63 106 = some (.iload 4, []) := by decide +kernel
theorem kc_63_108 : xe_code 63 108 = some (.ifCond .ge 7, [115]) := by decide +kernel
theorem kc_63_111 : xe_code 63 111 = some (.iconst 0, []) := by decide +kernel
theorem kc_63_112 : xe_code 63 112 = some (.goto 5, [117]) := by decide +kernel
theorem kc_63_115 : xe_code 63 115 = some (.iload 4, []) := by decide +kernel
theorem kc_63_117 : xe_code 63 117 = some (.iload_n 3, []) := by decide +kernel
theorem kc_63_118 : xe_code 63 118 = some (.invokevirtual 298, [64, 3, 1357, 12]) := by decide +kernel
theorem kc_63_121 : xe_code 63 121 = some (.istore 6, []) := by decide +kernel
theorem kc_63_123 : xe_code 63 123 = some (.iload_n 2, []) := by decide +kernel
theorem kc_63_124 : xe_code 63 124 = some (.ifCond .ne 8, [132]) := by decide +kernel
theorem kc_63_127 : xe_code 63 127 = some (.iload 5, []) := by decide +kernel
theorem kc_63_129 : xe_code 63 129 = some (.goto 25, [154]) := by decide +kernel
theorem kc_63_132 : xe_code 63 132 = some (.iload_n 2, []) := by decide +kernel
theorem kc_63_133 : xe_code 63 133 = some (.iconst 1, []) := by decide +kernel
theorem kc_63_134 : xe_code 63 134 = some (.if_icmp .ne 8, [142]) := by decide +kernel
theorem kc_63_137 : xe_code 63 137 = some (.iload 6, []) := by decide +kernel
theorem kc_63_139 : xe_code 63 139 = some (.goto 15, [154]) := by decide +kernel
theorem kc_63_142 : xe_code 63 142 = some (.iload 5, []) := by decide +kernel
theorem kc_63_144 : xe_code 63 144 = some (.iload 6, []) := by decide +kernel
theorem kc_63_146 : xe_code 63 146 = some (.if_icmp .ge 7, [153]) := by decide +kernel
theorem kc_63_149 : xe_code 63 149 = some (.iconst 1, []) := by decide +kernel
theorem kc_63_150 : xe_code 63 150 = some (.goto 4, [154]) := by decide +kernel
theorem kc_63_153 : xe_code 63 153 = some (.iconst 0, []) := by decide +kernel
theorem kc_63_154 : xe_code 63 154 = some (.ireturn, []) := by decide +kernel
theorem kc_64_0 : xe_code 64 0 = some (.lconst 0, []) := by decide +kernel
theorem kc_64_1 : xe_code 64 1 = some (.lstore 4, []) := by decide +kernel
theorem kc_64_3 : xe_code 64 3 = some (.iconst 0, []) := by decide +kernel
theorem kc_64_4 : xe_code 64 4 = some (.istore 6, []) := by decide +kernel
theorem kc_64_6 : xe_code 64 6 = some (.iload_n 2, []) := by decide +kernel
theorem kc_64_7 : xe_code 64 7 = some (.istore 7, []) := by decide +kernel
theorem kc_64_9 : xe_code 64 9 = some (.iload 7, []) := by decide +kernel
theorem kc_64_11 : xe_code 64 11 = some (.iload_n 3, []) := by decide +kernel
theorem kc_64_12 : xe_code 64 12 = some (.if_icmp .ge 58, [70]) := by decide +kernel
theorem kc_64_15 : xe_code 64 15 = some (.iconst 0, []) := by decide +kernel
theorem kc_64_16 : xe_code 64 16 = some (.istore 8, []) := by decide +kernel
theorem kc_64_18 : xe_code 64 18 = some (.iload 8, []) := by decide +kernel
theorem kc_64_20 : xe_code 64 20 = some (.bipush 12, []) := by decide +kernel
theorem kc_64_22 : xe_code 64 22 = some (.if_icmp .ge 42, [64]) := by decide +kernel
theorem kc_64_25 : xe_code 64 25 = some (.aload_n 0, []) := by decide +kernel
theorem kc_64_26 : xe_code 64 26 = some (.getfield 37, [12, 11, 958]) := by decide +kernel
theorem kc_64_29 : xe_code 64 29 = some (.iload 8, []) := by decide +kernel
theorem kc_64_31 : xe_code 64 31 = some (.iaload, []) := by decide +kernel
theorem kc_64_32 : xe_code 64 32 = some (.iload_n 1, []) := by decide +kernel
theorem kc_64_33 : xe_code 64 33 = some (.if_icmp .ne 25, [58]) := by decide +kernel
theorem kc_64_36 : xe_code 64 36 = some (.lload 4, []) := by decide +kernel
theorem kc_64_38 : xe_code 64 38 = some (.aload_n 0, []) := by decide +kernel
theorem kc_64_39 : xe_code 64 39 = some (.getfield 57, [12, 17, 964]) := by decide +kernel
theorem kc_64_42 : xe_code 64 42 = some (.bipush 12, []) := by decide +kernel
theorem kc_64_44 : xe_code 64 44 = some (.iload 7, []) := by decide +kernel
theorem kc_64_46 : xe_code 64 46 = some (.imul, []) := by decide +kernel
theorem kc_64_47 : xe_code 64 47 = some (.iload 8, []) := by decide +kernel
theorem kc_64_49 : xe_code 64 49 = some (.iadd, []) := by decide +kernel
theorem kc_64_50 : xe_code 64 50 = some (.iaload, []) := by decide +kernel
theorem kc_64_51 : xe_code 64 51 = some (.i2l, []) := by decide +kernel
theorem kc_64_52 : xe_code 64 52 = some (.ladd, []) := by decide +kernel
theorem kc_64_53 : xe_code 64 53 = some (.lstore 4, []) := by decide +kernel
theorem kc_64_55 : xe_code 64 55 = some (.iinc 6 1, []) := by decide +kernel
theorem kc_64_58 : xe_code 64 58 = some (.iinc 8 1, []) := by decide +kernel
theorem kc_64_61 : xe_code 64 61 = some (.goto (-43), [18]) := by decide +kernel
theorem kc_64_64 : xe_code 64 64 = some (.iinc 7 1, []) := by decide +kernel
theorem kc_64_67 : xe_code 64 67 = some (.goto (-58), [9]) := by decide +kernel
theorem kc_64_70 : xe_code 64 70 = some (.iload 6, []) := by decide +kernel
theorem kc_64_72 : xe_code 64 72 = some (.ifCond .ne 7, [79]) := by decide +kernel
theorem kc_64_75 : xe_code 64 75 = some (.iconst 0, []) := by decide +kernel
theorem kc_64_76 : xe_code 64 76 = some (.goto 10, [86]) := by decide +kernel
theorem kc_64_79 : xe_code 64 79 = some (.lload 4, []) := by decide +kernel
theorem kc_64_81 : xe_code 64 81 = some (.iload 6, []) := by decide +kernel
theorem kc_64_83 : xe_code 64 83 = some (.i2l, []) := by decide +kernel
theorem kc_64_84 : xe_code 64 84 = some (.ldiv, []) := by decide +kernel
theorem kc_64_85 : xe_code 64 85 = some (.l2i, []) := by decide +kernel
theorem kc_64_86 : xe_code 64 86 = some (.ireturn, []) := by decide +kernel
theorem kc_65_0 : xe_code 65 0 = some (.aload_n 0, []) := by decide +kernel
theorem kc_65_1 : xe_code 65 1 = some (.iconst 0, []) := by decide +kernel
theorem kc_65_2 : xe_code 65 2 = some (.putfield 169, [12, 0, 947]) := by decide +kernel
theorem kc_65_5 : xe_code 65 5 = some (.iload_n 1, []) := by decide +kernel
theorem kc_65_6 : xe_code 65 6 = some (.iconst 0, []) := by decide +kernel
theorem kc_65_7 : xe_code 65 7 = some (.bipush 23, []) := by decide +kernel
theorem kc_65_9 : xe_code 65 9 = some (.invokestatic 173, [12, 3, 1152, 12]) := by decide +kernel
theorem kc_65_12 : xe_code 65 12 = some (.ifCond .eq 21, [33]) := by decide +kernel
theorem kc_65_15 : xe_code 65 15 = some (.iload_n 2, []) := by decide +kernel
theorem kc_65_16 : xe_code 65 16 = some (.iconst 0, []) := by decide +kernel
theorem kc_65_17 : xe_code 65 17 = some (.iconst 3, []) := by decide +kernel
theorem kc_65_18 : xe_code 65 18 = some (.invokestatic 173, [12, 3, 1152, 12]) := by decide +kernel
theorem kc_65_21 : xe_code 65 21 = some (.ifCond .eq 12, [33]) := by decide +kernel
theorem kc_65_24 : xe_code 65 24 = some (.iload_n 3, []) := by decide +kernel
theorem kc_65_25 : xe_code 65 25 = some (.iconst 0, []) := by decide +kernel
theorem kc_65_26 : xe_code 65 26 = some (.iconst 5, []) := by decide +kernel
theorem kc_65_27 : xe_code 65 27 = some (.invokestatic 173, [12, 3, 1152, 12]) := by decide +kernel
theorem kc_65_30 : xe_code 65 30 = some (.ifCond .ne 9, [39]) := by decide +kernel
theorem kc_65_33 : xe_code 65 33 = some (.aload_n 0, []) := by decide +kernel
theorem kc_65_34 : xe_code 65 34 = some (.iconst (-1), []) := by decide +kernel
theorem kc_65_35 : xe_code 65 35 = some (.invokevirtual 188, [13, 1, 1155, 12]) := by decide +kernel
theorem kc_65_38 : xe_code 65 38 = some (.ireturn, []) := by decide +kernel
theorem kc_65_39 : xe_code 65 39 = some (.iload 4, []) := by decide +kernel
theorem kc_65_41 : xe_code 65 41 = some (.iconst 0, []) := by decide +kernel
theorem kc_65_42 : xe_code 65 42 = some (.iconst 2, []) := by decide +kernel
theorem kc_65_43 : xe_code 65 43 = some (.invokestatic 173, [12, 3, 1152, 12]) := by decide +kernel
theorem kc_65_46 : xe_code 65 46 = some (.ifCond .ne 10, [56]) := by decide +kernel
theorem kc_65_49 : xe_code 65 49 = some (.aload_n 0, []) := by decide +kernel
theorem kc_65_50 : xe_code 65 50 = some (.bipush (-2), []) := by decide +kernel
theorem kc_65_52 : xe_code 65 52 = some (.invokevirtual 188, [13, 1, 1155, 12]) := by decide +kernel
theorem kc_65_55 : xe_code 65 55 = some (.ireturn, []) := by decide +kernel
theorem kc_65_56 : xe_code 65 56 = some (.aload_n 0, []) := by decide +kernel
theorem kc_65_57 : xe_code 65 57 = some (.getfield 142, [12, 52, 999]) := by decide +kernel
theorem kc_65_60 : xe_code 65 60 = some (.iload_n 1, []) := by decide +kernel
theorem kc_65_61 : xe_code 65 61 = some (.iaload, []) := by decide +kernel
theorem kc_65_62 : xe_code 65 62 = some (.istore 5, []) := by decide +kernel
theorem kc_65_64 : xe_code 65 64 = some (.aload_n 0, []) := by decide +kernel
theorem kc_65_65 : xe_code 65 65 = some (.getfield 136, [12, 50, 997]) := by decide +kernel
theorem kc_65_68 : xe_code 65 68 = some (.iload_n 1, []) := by decide +kernel
theorem kc_65_69 : xe_code 65 69 = some (.iload_n 2, []) := by decide +kernel
theorem kc_65_70 : xe_code 65 70 = some (.iastore, []) := by decide +kernel
theorem kc_65_71 : xe_code 65 71 = some (.aload_n 0, []) := by decide +kernel
theorem kc_65_72 : xe_code 65 72 = some (.getfield 139, [12, 51, 998]) := by decide +kernel
theorem kc_65_75 : xe_code 65 75 = some (.iload_n 1, []) := by decide +kernel
theorem kc_65_76 : xe_code 65 76 = some (.iload_n 3, []) := by decide +kernel
theorem kc_65_77 : xe_code 65 77 = some (.iastore, []) := by decide +kernel
theorem kc_65_78 : xe_code 65 78 = some (.aload_n 0, []) := by decide +kernel
theorem kc_65_79 : xe_code 65 79 = some (.getfield 142, [12, 52, 999]) := by decide +kernel
theorem kc_65_82 : xe_code 65 82 = some (.iload_n 1, []) := by decide +kernel
theorem kc_65_83 : xe_code 65 83 = some (.iload 4, []) := by decide +kernel
theorem kc_65_85 : xe_code 65 85 = some (.iastore, []) := by decide +kernel
theorem kc_65_86 : xe_code 65 86 = some (.iload 5, []) := by decide +kernel
theorem kc_65_88 : xe_code 65 88 = some (.ireturn, []) := by decide +kernel
theorem kc_66_0 : xe_code 66 0 = some (.aload_n 0, []) := by decide +kernel
theorem kc_66_1 : xe_code 66 1 = some (.iconst 0, []) := by decide +kernel
theorem kc_66_2 : xe_code 66 2 = some (.putfield 169, [12, 0, 947]) := by decide +kernel
theorem kc_66_5 : xe_code 66 5 = some (.aload_n 0, []) := by decide +kernel
theorem kc_66_6 : xe_code 66 6 = some (.invokevirtual 308, [67, 0, 1369, 12]) := by decide +kernel
theorem kc_66_9 : xe_code 66 9 = some (.ireturn, []) := by decide +kernel
theorem kc_67_0 : xe_code 67 0 = some (.iconst 0, []) := by decide +kernel
theorem kc_67_1 : xe_code 67 1 = some (.istore_n 1, []) := by decide +kernel
theorem kc_67_2 : xe_code 67 2 = some (.iconst 0, []) := by decide +kernel
theorem kc_67_3 : xe_code 67 3 = some (.istore_n 2, []) := by decide +kernel
theorem kc_67_4 : xe_code 67 4 = some (.iload_n 2, []) := by decide +kernel
theorem kc_67_5 : xe_code 67 5 = some (.bipush 24, []) := by decide +kernel
theorem kc_67_7 : xe_code 67 7 = some (.if_icmp .ge 59, [66]) := by decide +kernel
theorem kc_67_10 : xe_code 67 10 = some (.iconst 0, []) := by decide +kernel
theorem kc_67_11 : xe_code 67 11 = some (.istore_n 3, []) := by decide +kernel
theorem kc_67_12 : xe_code 67 12 = some (.iload_n 3, []) := by decide +kernel
theorem kc_67_13 : xe_code 67 13 = some (.iload_n 2, []) := by decide +kernel
theorem kc_67_14 : xe_code 67 14 = some (.if_icmp .ge 46, [60]) := by decide +kernel
theorem kc_67_17 : xe_code 67 17 = some (.iload_n 1, []) := by decide +kernel
theorem kc_67_18 : xe_code 67 18 = some (.aload_n 0, []) := by decide +kernel
theorem kc_67_19 : xe_code 67 19 = some (.getfield 142, [12, 52, 999]) := by decide +kernel
theorem kc_67_22 : xe_code 67 22 = some (.iload_n 2, []) := by decide +kernel
theorem kc_67_23 : xe_code 67 23 = some (.iaload, []) := by decide +kernel
theorem kc_67_24 : xe_code 67 24 = some (.iconst 1, []) := by decide +kernel
theorem kc_67_25 : xe_code 67 25 = some (.if_icmp .ne 26, [51]) := by decide +kernel
theorem kc_67_28 : xe_code 67 28 = some (.aload_n 0, []) := by decide +kernel
theorem kc_67_29 : xe_code 67 29 = some (.getfield 142, [12, 52, 999]) := by decide +kernel
theorem kc_67_32 : xe_code 67 32 = some (.iload_n 3, []) := by decide +kernel
theorem kc_67_33 : xe_code 67 33 = some (.iaload, []) := by decide +kernel
theorem kc_67_34 : xe_code 67 34 = some (.iconst 1, []) := by decide +kernel
theorem kc_67_35 : xe_code 67 35 = some (.if_icmp .ne 16, [51]) := by decide +kernel
theorem kc_67_38 : xe_code 67 38 = some (.aload_n 0, []) := by decide +kernel
theorem kc_67_39 : xe_code 67 39 = some (.iload_n 2, []) := by decide +kernel
theorem kc_67_40 : xe_code 67 40 = some (.iload_n 3, []) := by decide +kernel
theorem kc_67_41 : xe_code 67 41 = some (.invokevirtual 305, [68, 2, 1373, 12]) := by decide +kernel
theorem kc_67_44 : xe_code 67 44 = some (.ifCond .eq 7, [51]) := by decide +kernel
theorem kc_67_47 : xe_code 67 47 = some (.iconst 1, []) := by decide +kernel
theorem kc_67_48 : xe_code 67 48 = some (.goto 4, [52]) := by decide +kernel
theorem kc_67_51 : xe_code 67 51 = some (.iconst 0, []) := by decide +kernel
theorem kc_67_52 : xe_code 67 52 = some (.iadd, []) := by decide +kernel
theorem kc_67_53 : xe_code 67 53 = some (.istore_n 1, []) := by decide +kernel
theorem kc_67_54 : xe_code 67 54 = some (.iinc 3 1, []) := by decide +kernel
theorem kc_67_57 : xe_code 67 57 = some (.goto (-45), [12]) := by decide +kernel
theorem kc_67_60 : xe_code 67 60 = some (.iinc 2 1, []) := by decide +kernel
theorem kc_67_63 : xe_code 67 63 = some (.goto (-59), [4]) := by decide +kernel
theorem kc_67_66 : xe_code 67 66 = some (.iload_n 1, []) := by decide +kernel
theorem kc_67_67 : xe_code 67 67 = some (.ireturn, []) := by decide +kernel
theorem kc_68_0 : xe_code 68 0 = some (.aload_n 0, []) := by decide +kernel
theorem kc_68_1 : xe_code 68 1 = some (.getfield 136, [12, 50, 997]) := by decide +kernel
theorem kc_68_4 : xe_code 68 4 = some (.iload_n 1, []) := by decide +kernel
theorem kc_68_5 : xe_code 68 5 = some (.iaload, []) := by decide +kernel
theorem kc_68_6 : xe_code 68 6 = some (.aload_n 0, []) := by decide +kernel
theorem kc_68_7 : xe_code 68 7 = some (.getfield 136, [12, 50, 997]) := by decide +kernel
theorem kc_68_10 : xe_code 68 10 = some (.iload_n 2, []) := by decide +kernel
theorem kc_68_11 : xe_code 68 11 = some (.iaload, []) := by decide +kernel
theorem kc_68_12 : xe_code 68 12 = some (.isub, []) := by decide +kernel
theorem kc_68_13 : xe_code 68 13 = some (.istore_n 3, []) := by decide +kernel
theorem kc_68_14 : xe_code 68 14 = some (.aload_n 0, []) := by decide +kernel
theorem kc_68_15 : xe_code 68 15 = some (.getfield 139, [12, 51, 998]) := by decide +kernel
theorem kc_68_18 : xe_code 68 18 = some (.iload_n 1, []) := by decide +kernel
theorem kc_68_19 : xe_code 68 19 = some (.iaload, []) := by decide +kernel
theorem kc_68_20 : xe_code 68 20 = some (.aload_n 0, []) := by decide +kernel
theorem kc_68_21 : xe_code 68 21 = some (.getfield 139, [12, 51, 998]) := by decide +kernel
theorem kc_68_24 : xe_code 68 24 = some (.iload_n 2, []) := by decide +kernel
theorem kc_68_25 : xe_code 68 25 = some (.iaload, []) := by decide +kernel
theorem kc_68_26 : xe_code 68 26 = some (.isub, []) := by decide +kernel
theorem kc_68_27 : xe_code 68 27 = some (.istore 4, []) := by decide +kernel
theorem kc_68_29 : xe_code 68 29 = some (.iload_n 3, []) := by decide +kernel
theorem kc_68_30 : xe_code 68 30 = some (.ifCond .ne 15, [45]) := by decide +kernel
theorem kc_68_33 : xe_code 68 33 = some (.iload 4, []) := by decide +kernel
theorem kc_68_35 : xe_code 68 35 = some (.iconst 1, []) := by decide +kernel
theorem kc_68_36 : xe_code 68 36 = some (.if_icmp .eq 24, [60]) := by decide +kernel
theorem kc_68_39 : xe_code 68 39 = some (.iload 4, []) := by decide +kernel
theorem kc_68_41 : xe_code 68 41 = some (.iconst (-1), []) := by decide +kernel
theorem kc_68_42 : xe_code 68 42 = some (.if_icmp .eq 18, [60]) := by decide +kernel
theorem kc_68_45 : xe_code 68 45 = some (.iload 4, []) := by decide +kernel
theorem kc_68_47 : xe_code 68 47 = some (.ifCond .ne 17, [64]) := by decide +kernel
theorem kc_68_50 : xe_code 68 50 = some (.iload_n 3, []) := by decide +kernel
theorem kc_68_51 : xe_code 68 51 = some (.iconst 1, []) := by decide +kernel
theorem kc_68_52 : xe_code 68 52 = some (.if_icmp .eq 8, [60]) := by decide +kernel
theorem kc_68_55 : xe_code 68 55 = some (.iload_n 3, []) := by decide +kernel
theorem kc_68_56 : xe_code 68 56 = some (.iconst (-1), []) := by decide +kernel
theorem kc_68_57 : xe_code 68 57 = some (.if_icmp .ne 7, [64]) := by decide +kernel
theorem kc_68_60 : xe_code 68 60 = some (.iconst 1, []) := by decide +kernel
theorem kc_68_61 : xe_code 68 61 = some (.goto 4, [65]) := by decide +kernel
theorem kc_68_64 : xe_code 68 64 = some (.iconst 0, []) := by decide +kernel
theorem kc_68_65 : xe_code 68 65 = some (.ireturn, []) := by decide +kernel
theorem kc_69_0 : xe_code 69 0 = some (.aload_n 0, []) := by decide +kernel
theorem kc_69_1 : xe_code 69 1 = some (.iconst 0, []) := by decide +kernel
theorem kc_69_2 : xe_code 69 2 = some (.putfield 169, [12, 0, 947]) := by decide +kernel
theorem kc_69_5 : xe_code 69 5 = some (.iload_n 1, []) := by decide +kernel
theorem kc_69_6 : xe_code 69 6 = some (.iconst 0, []) := by decide +kernel
theorem kc_69_7 : xe_code 69 7 = some (.iconst 1, []) := by decide +kernel
theorem kc_69_8 : xe_code 69 8 = some (.invokestatic 173, [12, 3, 1152, 12]) := by decide +kernel
theorem kc_69_11 : xe_code 69 11 = some (.ifCond .ne 10, [21]) := by decide +kernel
theorem kc_69_14 : xe_code 69 14 = some (.aload_n 0, []) := by decide +kernel
theorem kc_69_15 : xe_code 69 15 = some (.bipush (-2), []) := by decide +kernel
theorem kc_69_17 : xe_code 69 17 = some (.invokevirtual 188, [13, 1, 1155, 12]) := by decide +kernel
theorem kc_69_20 : xe_code 69 20 = some (.ireturn, []) := by decide +kernel
theorem kc_69_21 : xe_code 69 21 = some (.aload_n 0, []) := by decide +kernel
theorem kc_69_22 : xe_code 69 22 = some (.invokevirtual 311, [70, 0, 1381, 12]) := by decide +kernel
theorem kc_69_25 : xe_code 69 25 = some (.aload_n 0, []) := by decide +kernel
theorem kc_69_26 : xe_code 69 26 = some (.getfield 302, [12, 54, 1001]) := by decide +kernel
theorem kc_69_29 : xe_code 69 29 = some (.bipush 16, []) := by decide +kernel
theorem kc_69_31 : xe_code 69 31 = some (.if_icmp .le 10, [41]) := by decide +kernel
theorem kc_69_34 : xe_code 69 34 = some (.aload_n 0, []) := by decide +kernel
theorem kc_69_35 : xe_code 69 35 = some (.bipush (-6), []) := by decide +kernel
theorem kc_69_37 : xe_code 69 37 = some (.invokevirtual 188, [13, 1, 1155, 12]) := by decide +kernel
theorem kc_69_40 : xe_code 69 40 = some (.ireturn, []) := by decide +kernel
theorem kc_69_41 : xe_code 69 41 = some (.iconst 0, []) := by decide +kernel
theorem kc_69_42 : xe_code 69 42 = some (.istore_n 2, []) := by decide +kernel
theorem kc_69_43 : xe_code 69 43 = some (.iconst 0, []) := by decide +kernel
theorem kc_69_44 : xe_code 69 44 = some (.istore_n 3, []) := by decide +kernel
theorem kc_69_45 : xe_code 69 45 = some (.iload_n 3, []) := by decide +kernel
theorem kc_69_46 : xe_code 69 46 = some (.aload_n 0, []) := by decide +kernel
theorem kc_69_47 : xe_code 69 47 = some (.getfield 302, [12, 54, 1001]) := by decide +kernel
theorem kc_69_50 : xe_code 69 50 = some (.if_icmp .ge 82, [132]) := by decide +kernel
theorem kc_69_53 : xe_code 69 53 = some (.iload_n 2, []) := by decide +kernel
theorem kc_69_54 : xe_code 69 54 = some (.aload_n 0, []) := by decide +kernel
theorem kc_69_55 : xe_code 69 55 = some (.getfield 142, [12, 52, 999]) := by decide +kernel
theorem kc_69_58 : xe_code 69 58 = some (.aload_n 0, []) := by decide +kernel
theorem kc_69_59 : xe_code 69 59 = some (.getfield 145, [12, 53, 1000]) := by decide +kernel
theorem kc_69_62 : xe_code 69 62 = some (.iload_n 3, []) := by decide +kernel
theorem kc_69_63 : xe_code 69 63 = some (.iaload, []) := by decide +kernel
theorem kc_69_64 : xe_code 69 64 = some (.iaload, []) := by decide +kernel
theorem kc_69_65 : xe_code 69 65 = some (.iadd, []) := by decide +kernel
theorem kc_69_66 : xe_code 69 66 = some (.istore_n 2, []) := by decide +kernel
theorem kc_69_67 : xe_code 69 67 = some (.aload_n 0, []) := by decide +kernel
theorem kc_69_68 : xe_code 69 68 = some (.getfield 148, [12, 55, 1002]) := by decide +kernel
theorem kc_69_71 : xe_code 69 71 = some (.iload_n 3, []) := by decide +kernel
theorem kc_69_72 : xe_code 69 72 = some (.iconst 0, []) := by decide +kernel
theorem kc_69_73 : xe_code 69 73 = some (.iastore, []) := by decide +kernel
theorem kc_69_74 : xe_code 69 74 = some (.iconst 0, []) := by decide +kernel
theorem kc_69_75 : xe_code 69 75 = some (.istore 4, []) := by decide +kernel
theorem kc_69_77 : xe_code 69 77 = some (.iload 4, []) := by decide +kernel
theorem kc_69_79 : xe_code 69 79 = some (.iload_n 3, []) := by decide +kernel
theorem kc_69_80 : xe_code 69 80 = some (.if_icmp .ge 46, [126]) := by decide +kernel
theorem kc_69_83 : xe_code 69 83 = some (.aload_n 0, []) := by decide +kernel
theorem kc_69_84 : xe_code 69 84 = some (.getfield 148, [12, 55, 1002]) := by decide +kernel
theorem kc_69_87 : xe_code 69 87 = some (.iload_n 3, []) := by decide +kernel
theorem kc_69_88 : xe_code 69 88 = some (.dup2, []) := by decide +kernel
theorem kc_69_89 : xe_code 69 89 = some (.iaload, []) := by decide +kernel
theorem kc_69_90 : xe_code 69 90 = some (.aload_n 0, []) := by decide +kernel
theorem kc_69_91 : xe_code 69 91 = some (.aload_n 0, []) := by decide +kernel
theorem kc_69_92 : xe_code 69 92 = some (.getfield 145, [12, 53, 1000]) := by decide +kernel
theorem kc_69_95 : xe_code 69 95 = some (.iload_n 3, []) := by decide +kernel
theorem kc_69_96 : xe_code 69 96 = some (.iaload, []) := by decide +kernel
theorem kc_69_97 : xe_code 69 97 = some (.aload_n 0, []) := by decide +kernel
theorem kc_69_98 : xe_code 69 98 = some (.getfield 145, [12, 53, 1000]) := by decide +kernel
theorem kc_69_101 : xe_code 69 101 = some (.iload 4, []) := by decide +kernel
theorem kc_69_103 : xe_code 69 103 = some (.iaload, []) := by decide +kernel
theorem kc_69_104 : xe_code 69 104 = some (.invokevirtual 305, [68, 2, 1373, 12]) := by decide +kernel
theorem kc_69_107 : xe_code 69 107 = some (.ifCond .eq 10, [117]) := by decide +kernel
theorem kc_69_110 : xe_code 69 110 = some (.iconst 1, []) := by decide +kernel
theorem kc_69_111 : xe_code 69 111 = some (.iload 4, []) := by decide +kernel
theorem kc_69_113 : xe_code 69 113 = some (.ishl, []) := by decide +kernel
theorem kc_69_114 : xe_code 69 114 = some (.goto 4, [118]) := by decide +kernel
theorem kc_69_117 : xe_code 69 117 = some (.iconst 0, []) := by decide +kernel
theorem kc_69_118 : xe_code 69 118 = some (.ior, []) := by decide +kernel
theorem kc_69_119 : xe_code 69 119 = some (.iastore, []) := by decide +kernel
theorem kc_69_120 : xe_code 69 120 = some (.iinc 4 1, []) := by decide +kernel
theorem kc_69_123 : xe_code 69 123 = some (.goto (-46), [77]) := by decide +kernel
theorem kc_69_126 : xe_code 69 126 = some (.iinc 3 1, []) := by decide +kernel
theorem kc_69_129 : xe_code 69 129 = some (.goto (-84), [45]) := by decide +kernel
theorem kc_69_132 : xe_code 69 132 = some (.aload_n 0, []) := by decide +kernel
theorem kc_69_133 : xe_code 69 133 = some (.invokevirtual 308, [67, 0, 1369, 12]) := by decide +kernel
theorem kc_69_136 : xe_code 69 136 = some (.istore_n 3, []) := by decide +kernel
theorem kc_69_137 : xe_code 69 137 = some (.iconst 0, []) := by decide +kernel
theorem kc_69_138 : xe_code 69 138 = some (.istore 4, []) := by decide +kernel
theorem kc_69_140 : xe_code 69 140 = some (.iconst 0, []) := by decide +kernel
theorem kc_69_141 : xe_code 69 141 = some (.istore 5, []) := by decide +kernel
theorem kc_69_143 : xe_code 69 143 = some (.iconst 0, []) := by decide +kernel
theorem kc_69_144 : xe_code 69 144 = some (.istore 6, []) := by decide +kernel
theorem kc_69_146 : xe_code 69 146 = some (.iload 6, []) := by decide +kernel
theorem kc_69_148 : xe_code 69 148 = some (.iconst 1, []) := by decide +kernel
theorem kc_69_149 : xe_code 69 149 = some (.aload_n 0, []) := by decide +kernel
theorem kc_69_150 : xe_code 69 150 = some (.getfield 302, [12, 54, 1001]) := by decide +kernel
theorem kc_69_153 : xe_code 69 153 = some (.ishl, []) := by decide +kernel
theorem kc_69_154 : xe_code 69 154 = some (.if_icmp .ge 91, [245]) := by decide +kernel
theorem kc_69_157 : xe_code 69 157 = some (.iload 6, []) := by decide +kernel
theorem kc_69_159 : xe_code 69 159 = some (.invokestatic 273, [50, 1, 1302, 12]) := by decide +kernel
theorem kc_69_162 : xe_code 69 162 = some (.iload_n 2, []) := by decide +kernel
theorem kc_69_163 : xe_code 69 163 = some (.if_icmp .ne 76, [239]) := by decide +kernel
theorem kc_69_166 : xe_code 69 166 = some (.iconst 0, []) := by decide +kernel
theorem kc_69_167 : xe_code 69 167 = some (.istore 7, []) := by decide +kernel
theorem kc_69_169 : xe_code 69 169 = some (.iconst 0, []) := by decide +kernel
theorem kc_69_170 : xe_code 69 170 = some (.istore 8, []) := by decide +kernel
theorem kc_69_172 : xe_code 69 172 = some (.iload 8, []) := by decide +kernel
theorem kc_69_174 : xe_code 69 174 = some (.aload_n 0, []) := by decide +kernel
theorem kc_69_175 : xe_code 69 175 = some (.getfield 302, [12, 54, 1001]) := by decide +kernel
theorem kc_69_178 : xe_code 69 178 = some (.if_icmp .ge 42, [220]) := by decide +kernel
theorem kc_69_181 : xe_code 69 181 = some (.iload 7, []) := by decide +kernel
theorem kc_69_183 : xe_code 69 183 = some (.iload 6, []) := by decide +kernel
theorem kc_69_185 : xe_code 69 185 = some (.iload 8, []) := by decide +kernel
theorem kc_69_187 : xe_code 69 187 = some (.ishr, []) := by decide +kernel
theorem kc_69_188 : xe_code 69 188 = some (.iconst 1, []) := by decide +kernel
theorem kc_69_189 : xe_code 69 189 = some (.iand, []) := by decide +kernel
theorem kc_69_190 : xe_code 69 190 = some (.iconst 1, []) := by decide +kernel
theorem kc_69_191 : xe_code 69 191 = some (.if_icmp .ne 19, [210]) := by decide +kernel
theorem kc_69_194 : xe_code 69 194 = some (.aload_n 0, []) := by decide +kernel
theorem kc_69_195 : xe_code 69 195 = some (.getfield 148, [12, 55, 1002]) := by decide +kernel
theorem kc_69_198 : xe_code 69 198 = some (.iload 8, []) := by decide +kernel
theorem kc_69_200 : xe_code 69 200 = some (.iaload, []) := by decide +kernel
theorem kc_69_201 : xe_code 69 201 = some (.iload 6, []) := by decide +kernel
theorem kc_69_203 : xe_code 69 203 = some (.iand, []) := by decide +kernel
theorem kc_69_204 : xe_code 69 204 = some (.invokestatic 273, [50, 1, 1302, 12]) := by decide +kernel
theorem kc_69_207 : xe_code 69 207 = some (.goto 4, [211]) := by decide +kernel
theorem kc_69_210 : xe_code 69 210 = some (.iconst 0, []) := by decide +kernel
theorem kc_69_211 : xe_code 69 211 = some (.iadd, []) := by decide +kernel
theorem kc_69_212 : xe_code 69 212 = some (.istore 7, []) := by decide +kernel
theorem kc_69_214 : xe_code 69 214 = some (.iinc 8 1, []) := by decide +kernel
theorem kc_69_217 : xe_code 69 217 = some (.goto (-45), [172]) := by decide +kernel
theorem kc_69_220 : xe_code 69 220 = some (.iinc 5 1, []) := by decide +kernel
theorem kc_69_223 : xe_code 69 223 = some (.iload 4, []) := by decide +kernel
theorem kc_69_225 : xe_code 69 225 = some (.iload 7, []) := by decide +kernel
theorem kc_69_227 : xe_code 69 227 = some (.iload_n 3, []) := by decide +kernel
theorem kc_69_228 : xe_code 69 228 = some (.if_icmp .lt 7, [235]) := by decide +kernel
theorem kc_69_231 : xe_code 69 231 = some (.iconst 1, []) := by decide +kernel
theorem kc_69_232 : xe_code 69 232 = some (.goto 4, [236]) := by decide +kernel
theorem kc_69_235 : xe_code 69 235 = some (.iconst 0, []) := by decide +kernel
theorem kc_69_236 : xe_code 69 236 = some (.iadd, []) := by decide +kernel
theorem kc_69_237 : xe_code 69 237 = some (.istore 4, []) := by decide +kernel
theorem kc_69_239 : xe_code 69 239 = some (.iinc 6 1, []) := by decide +kernel
theorem kc_69_242 : xe_code 69 242 = some (.goto (-96), [146]) := by decide +kernel
theorem kc_69_245 : xe_code 69 245 = some (.iload_n 1, []) := by decide +kernel
theorem kc_69_246 : xe_code 69 246 = some (.ifCond .ne 8, [254]) := by decide +kernel
theorem kc_69_249 : xe_code 69 249 = some (.iload 4, []) := by decide +kernel
theorem kc_69_251 : xe_code 69 251 = some (.goto 5, [256]) := by decide +kernel
theorem kc_69_254 : xe_code 69 254 = some (.iload 5, []) := by decide +kernel
theorem kc_69_256 : xe_code 69 256 = some (.ireturn, []) := by decide +kernel
theorem kc_70_0 : xe_code 70 0 = some (.aload_n 0, []) := by decide +kernel
theorem kc_70_1 : xe_code 70 1 = some (.iconst 0, []) := by decide +kernel
theorem kc_70_2 : xe_code 70 2 = some (.putfield 302, [12, 54, 1001]) := by decide +kernel
theorem kc_70_5 : xe_code 70 5 = some (.iconst 0, []) := by decide +kernel
theorem kc_70_6 : xe_code 70 6 = some (.istore_n 1, []) := by decide +kernel
theorem kc_70_7 : xe_code 70 7 = some (.iload_n 1, []) := by decide +kernel
theorem kc_70_8 : xe_code 70 8 = some (.bipush 24, []) := by decide +kernel
theorem kc_70_10 : xe_code 70 10 = some (.if_icmp .ge 39, [49]) := by decide +kernel
theorem kc_70_13 : xe_code 70 13 = some (.aload_n 0, []) := by decide +kernel
theorem kc_70_14 : xe_code 70 14 = some (.getfield 142, [12, 52, 999]) := by decide +kernel
theorem kc_70_17 : xe_code 70 17 = some (.iload_n 1, []) := by decide +kernel
theorem kc_70_18 : xe_code 70 18 = some (.iaload, []) := by decide +kernel
theorem kc_70_19 : xe_code 70 19 = some (.iconst 2, []) := by decide +kernel
theorem kc_70_20 : xe_code 70 20 = some (.if_icmp .ge 23, [43]) := by decide +kernel
theorem kc_70_23 : xe_code 70 23 = some (.aload_n 0, []) := by decide +kernel
theorem kc_70_24 : xe_code 70 24 = some (.getfield 145, [12, 53, 1000]) := by decide +kernel
theorem kc_70_27 : xe_code 70 27 = some (.aload_n 0, []) := by decide +kernel
theorem kc_70_28 : xe_code 70 28 = some (.getfield 302, [12, 54, 1001]) := by decide +kernel
theorem kc_70_31 : xe_code 70 31 = some (.iload_n 1, []) := by decide +kernel
theorem kc_70_32 : xe_code 70 32 = some (.iastore, []) := by decide +kernel
theorem kc_70_33 : xe_code 70 33 = some (.aload_n 0, []) := by decide +kernel
theorem kc_70_34 : xe_code 70 34 = some (.dup, []) := by decide +kernel
theorem kc_70_35 : xe_code 70 35 = some (.getfield 302, [12, 54, 1001]) := by decide +kernel
theorem kc_70_38 : xe_code 70 38 = some (.iconst 1, []) := by decide +kernel
theorem kc_70_39 : xe_code 70 39 = some (.iadd, []) := by decide +kernel
theorem kc_70_40 : xe_code 70 40 = some (.putfield 302, [12, 54, 1001]) := by decide +kernel
theorem kc_70_43 : xe_code 70 43 = some (.iinc 1 1, []) := by decide +kernel
theorem kc_70_46 : xe_code 70 46 = some (.goto (-39), [7]) := by decide +kernel
theorem kc_70_49 : xe_code 70 49 = some (.return_, []) := by decide +kernel
theorem kc_71_0 : xe_code 71 0 = some (.aload_n 0, []) := by decide +kernel
theorem kc_71_1 : xe_code 71 1 = some (.iconst 0, []) := by decide +kernel
theorem kc_71_2 : xe_code 71 2 = some (.putfield 169, [12, 0, 947]) := by decide +kernel
theorem kc_71_5 : xe_code 71 5 = some (.iload_n 2, []) := by decide +kernel
theorem kc_71_6 : xe_code 71 6 = some (.iconst 0, []) := by decide +kernel
theorem kc_71_7 : xe_code 71 7 = some (.iconst 3, []) := by decide +kernel
theorem kc_71_8 : xe_code 71 8 = some (.invokestatic 173, [12, 3, 1152, 12]) := by decide +kernel
theorem kc_71_11 : xe_code 71 11 = some (.ifCond .eq 12, [23]) := by decide +kernel
theorem kc_71_14 : xe_code 71 14 = some (.iload_n 3, []) := by decide +kernel
theorem kc_71_15 : xe_code 71 15 = some (.iconst 0, []) := by decide +kernel
theorem kc_71_16 : xe_code 71 16 = some (.iconst 1, []) := by decide +kernel
theorem kc_71_17 : xe_code 71 17 = some (.invokestatic 173, [12, 3, 1152, 12]) := by decide +kernel
theorem kc_71_20 : xe_code 71 20 = some (.ifCond .ne 10, [30]) := by decide +kernel
theorem kc_71_23 : xe_code 71 23 = some (.aload_n 0, []) := by decide +kernel
theorem kc_71_24 : xe_code 71 24 = some (.bipush (-2), []) := by decide +kernel
theorem kc_71_26 : xe_code 71 26 = some (.invokevirtual 188, [13, 1, 1155, 12]) := by decide +kernel
theorem kc_71_29 : xe_code 71 29 = some (.ireturn, []) := by decide +kernel
theorem kc_71_30 : xe_code 71 30 = some (.iload_n 1, []) := by decide +kernel
theorem kc_71_31 : xe_code 71 31 = some (.aload_n 0, []) := by decide +kernel
theorem kc_71_32 : xe_code 71 32 = some (.getfield 213, [12, 1, 948]) := by decide +kernel
theorem kc_71_35 : xe_code 71 35 = some (.bipush 24, []) := by decide +kernel
theorem kc_71_37 : xe_code 71 37 = some (.idiv, []) := by decide +kernel
theorem kc_71_38 : xe_code 71 38 = some (.if_icmp .lt 8, [46]) := by decide +kernel
theorem kc_71_41 : xe_code 71 41 = some (.iload 4, []) := by decide +kernel
theorem kc_71_43 : xe_code 71 43 = some (.ifCond .ge 10, [53]) := by decide +kernel
theorem kc_71_46 : xe_code 71 46 = some (.aload_n 0, []) := by decide +kernel
theorem kc_71_47 : xe_code 71 47 = some (.bipush (-4), []) := by decide +kernel
theorem kc_71_49 : xe_code 71 49 = some (.invokevirtual 188, [13, 1, 1155, 12]) := by decide +kernel
theorem kc_71_52 : xe_code 71 52 = some (.ireturn, []) := by decide +kernel
theorem kc_71_53 : xe_code 71 53 = some (.iload_n 1, []) := by decide +kernel
theorem kc_71_54 : xe_code 71 54 = some (.bipush 25, []) := by decide +kernel
theorem kc_71_56 : xe_code 71 56 = some (.if_icmp .gt 19, [75]) := by decide +kernel
theorem kc_71_59 : xe_code 71 59 = some (.iload 4, []) := by decide +kernel
theorem kc_71_61 : xe_code 71 61 = some (.bipush 99, []) := by decide +kernel
theorem kc_71_63 : xe_code 71 63 = some (.if_icmp .gt 12, [75]) := by decide +kernel
theorem kc_71_66 : xe_code 71 66 = some (.aload_n 0, []) := by decide +kernel
theorem kc_71_67 : xe_code 71 67 = some (.getfield 314, [12, 56, 1003]) := by decide +kernel
theorem kc_71_70 : xe_code 71 70 = some (.bipush 12, []) := by decide +kernel
theorem kc_71_72 : xe_code 71 72 = some (.if_icmp .ne 10, [82]) := by decide +kernel
theorem kc_71_75 : xe_code 71 75 = some (.aload_n 0, []) := by decide +kernel
theorem kc_71_76 : xe_code 71 76 = some (.bipush (-6), []) := by decide +kernel
theorem kc_71_78 : xe_code 71 78 = some (.invokevirtual 188, [13, 1, 1155, 12]) := by decide +kernel
theorem kc_71_81 : xe_code 71 81 = some (.ireturn, []) := by decide +kernel
theorem kc_71_82 : xe_code 71 82 = some (.aload_n 0, []) := by decide +kernel
theorem kc_71_83 : xe_code 71 83 = some (.getfield 151, [12, 57, 1004]) := by decide +kernel
theorem kc_71_86 : xe_code 71 86 = some (.aload_n 0, []) := by decide +kernel
theorem kc_71_87 : xe_code 71 87 = some (.getfield 314, [12, 56, 1003]) := by decide +kernel
theorem kc_71_90 : xe_code 71 90 = some (.iload_n 1, []) := by decide +kernel
theorem kc_71_91 : xe_code 71 91 = some (.iastore, []) := by decide +kernel
theorem kc_71_92 : xe_code 71 92 = some (.aload_n 0, []) := by decide +kernel
theorem kc_71_93 : xe_code 71 93 = some (.getfield 154, [12, 58, 1005]) := by decide +kernel
theorem kc_71_96 : xe_code 71 96 = some (.aload_n 0, []) := by decide +kernel
theorem kc_71_97 : xe_code 71 97 = some (.getfield 314, [12, 56, 1003]) := by decide +kernel
theorem kc_71_100 : xe_code 71 100 = some (.iload_n 2, []) := by decide +kernel
theorem kc_71_101 : xe_code 71 101 = some (.iastore, []) := by decide +kernel
theorem kc_71_102 : xe_code 71 102 = some (.aload_n 0, []) := by decide +kernel
theorem kc_71_103 : xe_code 71 103 = some (.getfield 157, [12, 59, 1006]) := by decide +kernel
theorem kc_71_106 : xe_code 71 106 = some (.aload_n 0, []) := by decide +kernel
theorem kc_71_107 : xe_code 71 107 = some (.getfield 314, [12, 56, 1003]) := by decide +kernel
theorem kc_71_110 : xe_code 71 110 = some (.iload_n 3, []) := by decide +kernel
theorem kc_71_111 : xe_code 71 111 = some (.iastore, []) := by decide +kernel
theorem kc_71_112 : xe_code 71 112 = some (.aload_n 0, []) := by decide +kernel
theorem kc_71_113 : xe_code 71 113 = some (.getfield 160, [12, 60, 1007]) := by decide +kernel
theorem kc_71_116 : xe_code 71 116 = some (.aload_n 0, []) := by decide +kernel
theorem kc_71_117 : xe_code 71 117 = some (.getfield 314, [12, 56, 1003]) := by decide +kernel
theorem kc_71_120 : xe_code 71 120 = some (.iload 4, []) := by decide +kernel
theorem kc_71_122 : xe_code 71 122 = some (.iastore, []) := by decide +kernel
theorem kc_71_123 : xe_code 71 123 = some (.aload_n 0, []) := by decide +kernel
theorem kc_71_124 : xe_code 71 124 = some (.dup, []) := by decide +kernel
theorem kc_71_125 : xe_code 71 125 = some (.getfield 314, [12, 56, 1003]) := by decide +kernel
theorem kc_71_128 : xe_code 71 128 = some (.iconst 1, []) := by decide +kernel
theorem kc_71_129 : xe_code 71 129 = some (.iadd, []) := by decide +kernel
theorem kc_71_130 : xe_code 71 130 = some (.putfield 314, [12, 56, 1003]) := by decide +kernel
theorem kc_71_133 : xe_code 71 133 = some (.aload_n 0, []) := by decide +kernel
theorem kc_71_134 : xe_code 71 134 = some (.getfield 314, [12, 56, 1003]) := by decide +kernel
theorem kc_71_137 : xe_code 71 137 = some (.iconst 1, []) := by decide +kernel
theorem kc_71_138 : xe_code 71 138 = some (.isub, []) := by decide +kernel
theorem kc_71_139 : xe_code 71 139 = some (.ireturn, []) := by decide +kernel
theorem kc_72_0 : xe_code 72 0 = some (.aload_n 0, []) := by decide +kernel
theorem kc_72_1 : xe_code 72 1 = some (.iconst 0, []) := by decide +kernel
theorem kc_72_2 : xe_code 72 2 = some (.putfield 169, [12, 0, 947]) := by decide +kernel
theorem kc_72_5 : xe_code 72 5 = some (.aload_n 0, []) := by decide +kernel
theorem kc_72_6 : xe_code 72 6 = some (.getfield 317, [12, 61, 1008]) := by decide +kernel
theorem kc_72_9 : xe_code 72 9 = some (.istore_n 2, []) := by decide +kernel
theorem kc_72_10 : xe_code 72 10 = some (.aload_n 0, []) := by decide +kernel
theorem kc_72_11 : xe_code 72 11 = some (.iload_n 1, []) := by decide +kernel
theorem kc_72_12 : xe_code 72 12 = some (.putfield 317, [12, 61, 1008]) := by decide +kernel
theorem kc_72_15 : xe_code 72 15 = some (.iload_n 2, []) := by decide +kernel
theorem kc_72_16 : xe_code 72 16 = some (.iload_n 1, []) := by decide +kernel
theorem kc_72_17 : xe_code 72 17 = some (.if_icmp .ne 7, [24]) := by decide +kernel
theorem kc_72_20 : xe_code 72 20 = some (.iconst 0, []) := by decide +kernel
theorem kc_72_21 : xe_code 72 21 = some (.goto 4, [25]) := by decide +kernel
theorem kc_72_24 : xe_code 72 24 = some (.iconst 1, []) := by decide +kernel
theorem kc_72_25 : xe_code 72 25 = some (.ireturn, []) := by decide +kernel
theorem kc_73_0 : xe_code 73 0 = some (.aload_n 0, []) := by decide +kernel
theorem kc_73_1 : xe_code 73 1 = some (.iconst 0, []) := by decide +kernel
theorem kc_73_2 : xe_code 73 2 = some (.putfield 169, [12, 0, 947]) := by decide +kernel
theorem kc_73_5 : xe_code 73 5 = some (.iload_n 2, []) := by decide +kernel
theorem kc_73_6 : xe_code 73 6 = some (.iconst 0, []) := by decide +kernel
theorem kc_73_7 : xe_code 73 7 = some (.iconst 3, []) := by decide +kernel
theorem kc_73_8 : xe_code 73 8 = some (.invokestatic 173, [12, 3, 1152, 12]) := by decide +kernel
theorem kc_73_11 : xe_code 73 11 = some (.ifCond .ne 10, [21]) := by decide +kernel
theorem kc_73_14 : xe_code 73 14 = some (.aload_n 0, []) := by decide +kernel
theorem kc_73_15 : xe_code 73 15 = some (.bipush (-2), []) := by decide +kernel
theorem kc_73_17 : xe_code 73 17 = some (.invokevirtual 188, [13, 1, 1155, 12]) := by decide +kernel
theorem kc_73_20 : xe_code 73 20 = some (.ireturn, []) := by decide +kernel
theorem kc_73_21 : xe_code 73 21 = some (.aload_n 0, []) := by decide +kernel
theorem kc_73_22 : xe_code 73 22 = some (.getfield 163, [12, 62, 1009]) := by decide +kernel
theorem kc_73_25 : xe_code 73 25 = some (.iconst 2, []) := by decide +kernel
theorem kc_73_26 : xe_code 73 26 = some (.iload_n 2, []) := by decide +kernel
