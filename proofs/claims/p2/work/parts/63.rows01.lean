theorem kc_37_42 : xe_code 37 42 = some (.iload 6, []) := by decide +kernel
theorem kc_37_44 : xe_code 37 44 = some (.iaload, []) := by decide +kernel
theorem kc_37_45 : xe_code 37 45 = some (.iconst 3, []) := by decide +kernel
theorem kc_37_46 : xe_code 37 46 = some (.if_icmp .ne 37, [83]) := by decide +kernel
theorem kc_37_49 : xe_code 37 49 = some (.aload_n 0, []) := by decide +kernel
theorem kc_37_50 : xe_code 37 50 = some (.getfield 75, [12, 25, 972]) := by decide +kernel
theorem kc_37_53 : xe_code 37 53 = some (.iload 6, []) := by decide +kernel
theorem kc_37_55 : xe_code 37 55 = some (.iaload, []) := by decide +kernel
theorem kc_37_56 : xe_code 37 56 = some (.iload_n 1, []) := by decide +kernel
theorem kc_37_57 : xe_code 37 57 = some (.if_icmp .ne 26, [83]) := by decide +kernel
theorem kc_37_60 : xe_code 37 60 = some (.aload_n 0, []) := by decide +kernel
theorem kc_37_61 : xe_code 37 61 = some (.iload 6, []) := by decide +kernel
theorem kc_37_63 : xe_code 37 63 = some (.iload_n 2, []) := by decide +kernel
theorem kc_37_64 : xe_code 37 64 = some (.iload_n 3, []) := by decide +kernel
theorem kc_37_65 : xe_code 37 65 = some (.iload 4, []) := by decide +kernel
theorem kc_37_67 : xe_code 37 67 = some (.invokevirtual 228, [38, 4, 1255, 12]) := by decide +kernel
theorem kc_37_70 : xe_code 37 70 = some (.ifCond .eq 13, [83]) := by decide +kernel
theorem kc_37_73 : xe_code 37 73 = some (.aload_n 0, []) := by decide +kernel
theorem kc_37_74 : xe_code 37 74 = some (.getfield 78, [12, 26, 973]) := by decide +kernel
theorem kc_37_77 : xe_code 37 77 = some (.iload 6, []) := by decide +kernel
theorem kc_37_79 : xe_code 37 79 = some (.iaload, []) := by decide +kernel
theorem kc_37_80 : xe_code 37 80 = some (.goto 4, [84]) := by decide +kernel
theorem kc_37_83 : xe_code 37 83 = some (.iconst 0, []) := by decide +kernel
theorem kc_37_84 : xe_code 37 84 = some (.iadd, []) := by decide +kernel
theorem kc_37_85 : xe_code 37 85 = some (.istore 5, []) := by decide +kernel
theorem kc_37_87 : xe_code 37 87 = some (.iinc 6 1, []) := by decide +kernel
theorem kc_37_90 : xe_code 37 90 = some (.goto (-63), [27]) := by decide +kernel
theorem kc_37_93 : xe_code 37 93 = some (.iload 5, []) := by decide +kernel
theorem kc_37_95 : xe_code 37 95 = some (.invokestatic 232, [39, 1, 1259, 12]) := by decide +kernel
theorem kc_37_98 : xe_code 37 98 = some (.istore 5, []) := by decide +kernel
theorem kc_37_100 : xe_code 37 100 = some (.aload_n 0, []) := by decide +kernel
theorem kc_37_101 : xe_code 37 101 = some (.getfield 7, [12, 2, 949]) := by decide +kernel
theorem kc_37_104 : xe_code 37 104 = some (.iload_n 1, []) := by decide +kernel
theorem kc_37_105 : xe_code 37 105 = some (.iaload, []) := by decide +kernel
theorem kc_37_106 : xe_code 37 106 = some (.aload_n 0, []) := by decide +kernel
theorem kc_37_107 : xe_code 37 107 = some (.getfield 235, [12, 32, 979]) := by decide +kernel
theorem kc_37_110 : xe_code 37 110 = some (.invokestatic 210, [22, 1, 1193, 12]) := by decide +kernel
theorem kc_37_113 : xe_code 37 113 = some (.imul, []) := by decide +kernel
theorem kc_37_114 : xe_code 37 114 = some (.iconst 2, []) := by decide +kernel
theorem kc_37_115 : xe_code 37 115 = some (.idiv, []) := by decide +kernel
theorem kc_37_116 : xe_code 37 116 = some (.istore 6, []) := by decide +kernel
theorem kc_37_118 : xe_code 37 118 = some (.iload 5, []) := by decide +kernel
theorem kc_37_120 : xe_code 37 120 = some (.iload 5, []) := by decide +kernel
theorem kc_37_122 : xe_code 37 122 = some (.iload 6, []) := by decide +kernel
theorem kc_37_124 : xe_code 37 124 = some (.isub, []) := by decide +kernel
theorem kc_37_125 : xe_code 37 125 = some (.aload_n 0, []) := by decide +kernel
theorem kc_37_126 : xe_code 37 126 = some (.getfield 16, [12, 4, 951]) := by decide +kernel
theorem kc_37_129 : xe_code 37 129 = some (.iload_n 1, []) := by decide +kernel
theorem kc_37_130 : xe_code 37 130 = some (.iaload, []) := by decide +kernel
theorem kc_37_131 : xe_code 37 131 = some (.aload_n 0, []) := by decide +kernel
theorem kc_37_132 : xe_code 37 132 = some (.getfield 22, [12, 6, 953]) := by decide +kernel
theorem kc_37_135 : xe_code 37 135 = some (.iload_n 1, []) := by decide +kernel
theorem kc_37_136 : xe_code 37 136 = some (.iaload, []) := by decide +kernel
theorem kc_37_137 : xe_code 37 137 = some (.iconst 1, []) := by decide +kernel
theorem kc_37_138 : xe_code 37 138 = some (.if_icmp .ne 12, [150]) := by decide +kernel
theorem kc_37_141 : xe_code 37 141 = some (.aload_n 0, []) := by decide +kernel
theorem kc_37_142 : xe_code 37 142 = some (.getfield 19, [12, 5, 952]) := by decide +kernel
theorem kc_37_145 : xe_code 37 145 = some (.iload_n 1, []) := by decide +kernel
theorem kc_37_146 : xe_code 37 146 = some (.iaload, []) := by decide +kernel
theorem kc_37_147 : xe_code 37 147 = some (.goto 4, [151]) := by decide +kernel
theorem kc_37_150 : xe_code 37 150 = some (.iconst 0, []) := by decide +kernel
theorem kc_37_151 : xe_code 37 151 = some (.iadd, []) := by decide +kernel
theorem kc_37_152 : xe_code 37 152 = some (.imul, []) := by decide +kernel
theorem kc_37_153 : xe_code 37 153 = some (.bipush 100, []) := by decide +kernel
theorem kc_37_155 : xe_code 37 155 = some (.idiv, []) := by decide +kernel
theorem kc_37_156 : xe_code 37 156 = some (.isub, []) := by decide +kernel
theorem kc_37_157 : xe_code 37 157 = some (.invokestatic 232, [39, 1, 1259, 12]) := by decide +kernel
theorem kc_37_160 : xe_code 37 160 = some (.istore 5, []) := by decide +kernel
theorem kc_37_162 : xe_code 37 162 = some (.aload_n 0, []) := by decide +kernel
theorem kc_37_163 : xe_code 37 163 = some (.getfield 7, [12, 2, 949]) := by decide +kernel
theorem kc_37_166 : xe_code 37 166 = some (.iload_n 1, []) := by decide +kernel
theorem kc_37_167 : xe_code 37 167 = some (.iaload, []) := by decide +kernel
theorem kc_37_168 : xe_code 37 168 = some (.aload_n 0, []) := by decide +kernel
theorem kc_37_169 : xe_code 37 169 = some (.getfield 13, [12, 3, 950]) := by decide +kernel
theorem kc_37_172 : xe_code 37 172 = some (.iload_n 1, []) := by decide +kernel
theorem kc_37_173 : xe_code 37 173 = some (.iaload, []) := by decide +kernel
theorem kc_37_174 : xe_code 37 174 = some (.invokestatic 210, [22, 1, 1193, 12]) := by decide +kernel
theorem kc_37_177 : xe_code 37 177 = some (.imul, []) := by decide +kernel
theorem kc_37_178 : xe_code 37 178 = some (.istore 7, []) := by decide +kernel
theorem kc_37_180 : xe_code 37 180 = some (.iload 5, []) := by decide +kernel
theorem kc_37_182 : xe_code 37 182 = some (.iload 7, []) := by decide +kernel
theorem kc_37_184 : xe_code 37 184 = some (.if_icmp .le 11, [195]) := by decide +kernel
theorem kc_37_187 : xe_code 37 187 = some (.iload 5, []) := by decide +kernel
theorem kc_37_189 : xe_code 37 189 = some (.iload 7, []) := by decide +kernel
theorem kc_37_191 : xe_code 37 191 = some (.isub, []) := by decide +kernel
theorem kc_37_192 : xe_code 37 192 = some (.goto 4, [196]) := by decide +kernel
theorem kc_37_195 : xe_code 37 195 = some (.iconst 0, []) := by decide +kernel
theorem kc_37_196 : xe_code 37 196 = some (.istore 8, []) := by decide +kernel
theorem kc_37_198 : xe_code 37 198 = some (.aload_n 0, []) := by decide +kernel
theorem kc_37_199 : xe_code 37 199 = some (.getfield 90, [12, 30, 977]) := by decide +kernel
theorem kc_37_202 : xe_code 37 202 = some (.iload_n 1, []) := by decide +kernel
theorem kc_37_203 : xe_code 37 203 = some (.iload 5, []) := by decide +kernel
theorem kc_37_205 : xe_code 37 205 = some (.iload 8, []) := by decide +kernel
theorem kc_37_207 : xe_code 37 207 = some (.isub, []) := by decide +kernel
theorem kc_37_208 : xe_code 37 208 = some (.iastore, []) := by decide +kernel
theorem kc_37_209 : xe_code 37 209 = some (.iload 8, []) := by decide +kernel
theorem kc_37_211 : xe_code 37 211 = some (.ifCond .le 10, [221]) := by decide +kernel
theorem kc_37_214 : xe_code 37 214 = some (.aload_n 0, []) := by decide +kernel
theorem kc_37_215 : xe_code 37 215 = some (.iload_n 1, []) := by decide +kernel
theorem kc_37_216 : xe_code 37 216 = some (.iload 8, []) := by decide +kernel
theorem kc_37_218 : xe_code 37 218 = some (.invokevirtual 238, [40, 2, 1262, 12]) := by decide +kernel
theorem kc_37_221 : xe_code 37 221 = some (.return_, []) := by decide +kernel
theorem kc_38_0 : xe_code 38 0 = some (.iload_n 3, []) := by decide +kernel
theorem kc_38_1 : xe_code 38 1 = some (.ifCond .eq 15, [16]) := by decide +kernel
theorem kc_38_4 : xe_code 38 4 = some (.aload_n 0, []) := by decide +kernel
theorem kc_38_5 : xe_code 38 5 = some (.getfield 84, [12, 28, 975]) := by decide +kernel
theorem kc_38_8 : xe_code 38 8 = some (.iload_n 1, []) := by decide +kernel
theorem kc_38_9 : xe_code 38 9 = some (.baload, []) := by decide +kernel
theorem kc_38_10 : xe_code 38 10 = some (.ifCond .eq 30, [40]) := by decide +kernel
theorem kc_38_13 : xe_code 38 13 = some (.goto 12, [25]) := by decide +kernel
theorem kc_38_16 : xe_code 38 16 = some (.iload_n 2, []) := by decide +kernel
theorem kc_38_17 : xe_code 38 17 = some (.iload_n 1, []) := by decide +kernel
theorem kc_38_18 : xe_code 38 18 = some (.ishr, []) := by decide +kernel
theorem kc_38_19 : xe_code 38 19 = some (.iconst 1, []) := by decide +kernel
theorem kc_38_20 : xe_code 38 20 = some (.iand, []) := by decide +kernel
theorem kc_38_21 : xe_code 38 21 = some (.iconst 1, []) := by decide +kernel
theorem kc_38_22 : xe_code 38 22 = some (.if_icmp .ne 18, [40]) := by decide +kernel
theorem kc_38_25 : xe_code 38 25 = some (.aload_n 0, []) := by decide +kernel
theorem kc_38_26 : xe_code 38 26 = some (.getfield 81, [12, 27, 974]) := by decide +kernel
theorem kc_38_29 : xe_code 38 29 = some (.iload_n 1, []) := by decide +kernel
theorem kc_38_30 : xe_code 38 30 = some (.iaload, []) := by decide +kernel
theorem kc_38_31 : xe_code 38 31 = some (.iload 4, []) := by decide +kernel
theorem kc_38_33 : xe_code 38 33 = some (.if_icmp .gt 7, [40]) := by decide +kernel
theorem kc_38_36 : xe_code 38 36 = some (.iconst 1, []) := by decide +kernel
theorem kc_38_37 : xe_code 38 37 = some (.goto 4, [41]) := by decide +kernel
theorem kc_38_40 : xe_code 38 40 = some (.iconst 0, []) := by decide +kernel
theorem kc_38_41 : xe_code 38 41 = some (.ireturn, []) := by decide +kernel
theorem kc_39_0 : xe_code 39 0 = some (.iload_n 0, []) := by decide +kernel
theorem kc_39_1 : xe_code 39 1 = some (.ifCond .ge 7, [8]) := by decide +kernel
theorem kc_39_4 : xe_code 39 4 = some (.iconst 0, []) := by decide +kernel
theorem kc_39_5 : xe_code 39 5 = some (.goto 15, [20]) := by decide +kernel
theorem kc_39_8 : xe_code 39 8 = some (.iload_n 0, []) := by decide +kernel
theorem kc_39_9 : xe_code 39 9 = some (.ldc 192, [99999, 1155]) := by decide +kernel
theorem kc_39_11 : xe_code 39 11 = some (.if_icmp .le 8, [19]) := by decide +kernel
theorem kc_39_14 : xe_code 39 14 = some (.ldc 192, [99999, 1155]) := by decide +kernel
theorem kc_39_16 : xe_code 39 16 = some (.goto 4, [20]) := by decide +kernel
theorem kc_39_19 : xe_code 39 19 = some (.iload_n 0, []) := by decide +kernel
theorem kc_39_20 : xe_code 39 20 = some (.ireturn, []) := by decide +kernel
theorem kc_40_0 : xe_code 40 0 = some (.iconst 0, []) := by decide +kernel
theorem kc_40_1 : xe_code 40 1 = some (.istore_n 3, []) := by decide +kernel
theorem kc_40_2 : xe_code 40 2 = some (.iconst (-1), []) := by decide +kernel
theorem kc_40_3 : xe_code 40 3 = some (.istore 4, []) := by decide +kernel
theorem kc_40_5 : xe_code 40 5 = some (.bipush 11, []) := by decide +kernel
theorem kc_40_7 : xe_code 40 7 = some (.istore 5, []) := by decide +kernel
theorem kc_40_9 : xe_code 40 9 = some (.iload 5, []) := by decide +kernel
theorem kc_40_11 : xe_code 40 11 = some (.ifCond .lt 62, [73]) := by decide +kernel
theorem kc_40_14 : xe_code 40 14 = some (.aload_n 0, []) := by decide +kernel
theorem kc_40_15 : xe_code 40 15 = some (.getfield 37, [12, 11, 958]) := by decide +kernel
theorem kc_40_18 : xe_code 40 18 = some (.iload 5, []) := by decide +kernel
theorem kc_40_20 : xe_code 40 20 = some (.iaload, []) := by decide +kernel
theorem kc_40_21 : xe_code 40 21 = some (.iload_n 1, []) := by decide +kernel
theorem kc_40_22 : xe_code 40 22 = some (.if_icmp .ne 45, [67]) := by decide +kernel
theorem kc_40_25 : xe_code 40 25 = some (.aload_n 0, []) := by decide +kernel
theorem kc_40_26 : xe_code 40 26 = some (.getfield 13, [12, 3, 950]) := by decide +kernel
theorem kc_40_29 : xe_code 40 29 = some (.iload_n 1, []) := by decide +kernel
theorem kc_40_30 : xe_code 40 30 = some (.iaload, []) := by decide +kernel
theorem kc_40_31 : xe_code 40 31 = some (.aload_n 0, []) := by decide +kernel
theorem kc_40_32 : xe_code 40 32 = some (.getfield 235, [12, 32, 979]) := by decide +kernel
theorem kc_40_35 : xe_code 40 35 = some (.isub, []) := by decide +kernel
theorem kc_40_36 : xe_code 40 36 = some (.aload_n 0, []) := by decide +kernel
theorem kc_40_37 : xe_code 40 37 = some (.getfield 40, [12, 12, 959]) := by decide +kernel
theorem kc_40_40 : xe_code 40 40 = some (.iload 5, []) := by decide +kernel
theorem kc_40_42 : xe_code 40 42 = some (.iaload, []) := by decide +kernel
theorem kc_40_43 : xe_code 40 43 = some (.imul, []) := by decide +kernel
theorem kc_40_44 : xe_code 40 44 = some (.bipush 100, []) := by decide +kernel
theorem kc_40_46 : xe_code 40 46 = some (.idiv, []) := by decide +kernel
theorem kc_40_47 : xe_code 40 47 = some (.istore 6, []) := by decide +kernel
theorem kc_40_49 : xe_code 40 49 = some (.iload_n 3, []) := by decide +kernel
theorem kc_40_50 : xe_code 40 50 = some (.iload 6, []) := by decide +kernel
theorem kc_40_52 : xe_code 40 52 = some (.ifCond .ge 7, [59]) := by decide +kernel
theorem kc_40_55 : xe_code 40 55 = some (.iconst 0, []) := by decide +kernel
theorem kc_40_56 : xe_code 40 56 = some (.goto 5, [61]) := by decide +kernel
theorem kc_40_59 : xe_code 40 59 = some (.iload 6, []) := by decide +kernel
theorem kc_40_61 : xe_code 40 61 = some (.iadd, []) := by decide +kernel
theorem kc_40_62 : xe_code 40 62 = some (.istore_n 3, []) := by decide +kernel
theorem kc_40_63 : xe_code 40 63 = some (.iload 5, []) := by decide +kernel
theorem kc_40_65 : xe_code 40 65 = some (.istore 4, []) := by decide +kernel
theorem kc_40_67 : xe_code 40 67 = some (.iinc 5 (-1), []) := by decide +kernel
theorem kc_40_70 : xe_code 40 70 = some (.goto (-61), [9]) := by decide +kernel
theorem kc_40_73 : xe_code 40 73 = some (.iload_n 2, []) := by decide +kernel
theorem kc_40_74 : xe_code 40 74 = some (.istore 5, []) := by decide +kernel
theorem kc_40_76 : xe_code 40 76 = some (.iconst 0, []) := by decide +kernel
theorem kc_40_77 : xe_code 40 77 = some (.istore 6, []) := by decide +kernel
theorem kc_40_79 : xe_code 40 79 = some (.iload 6, []) := by decide +kernel
theorem kc_40_81 : xe_code 40 81 = some (.bipush 12, []) := by decide +kernel
theorem kc_40_83 : xe_code 40 83 = some (.if_icmp .ge 96, [179]) := by decide +kernel
theorem kc_40_86 : xe_code 40 86 = some (.iload_n 3, []) := by decide +kernel
theorem kc_40_87 : xe_code 40 87 = some (.ifCond .le 92, [179]) := by decide +kernel
theorem kc_40_90 : xe_code 40 90 = some (.aload_n 0, []) := by decide +kernel
theorem kc_40_91 : xe_code 40 91 = some (.getfield 37, [12, 11, 958]) := by decide +kernel
theorem kc_40_94 : xe_code 40 94 = some (.iload 6, []) := by decide +kernel
theorem kc_40_96 : xe_code 40 96 = some (.iaload, []) := by decide +kernel
theorem kc_40_97 : xe_code 40 97 = some (.iload_n 1, []) := by decide +kernel
theorem kc_40_98 : xe_code 40 98 = some (.if_icmp .ne 75, [173]) := by decide +kernel
theorem kc_40_101 : xe_code 40 101 = some (.aload_n 0, []) := by decide +kernel
theorem kc_40_102 : xe_code 40 102 = some (.getfield 13, [12, 3, 950]) := by decide +kernel
theorem kc_40_105 : xe_code 40 105 = some (.iload_n 1, []) := by decide +kernel
theorem kc_40_106 : xe_code 40 106 = some (.iaload, []) := by decide +kernel
theorem kc_40_107 : xe_code 40 107 = some (.aload_n 0, []) := by decide +kernel
theorem kc_40_108 : xe_code 40 108 = some (.getfield 235, [12, 32, 979]) := by decide +kernel
theorem kc_40_111 : xe_code 40 111 = some (.isub, []) := by decide +kernel
theorem kc_40_112 : xe_code 40 112 = some (.aload_n 0, []) := by decide +kernel
theorem kc_40_113 : xe_code 40 113 = some (.getfield 40, [12, 12, 959]) := by decide +kernel
theorem kc_40_116 : xe_code 40 116 = some (.iload 6, []) := by decide +kernel
theorem kc_40_118 : xe_code 40 118 = some (.iaload, []) := by decide +kernel
theorem kc_40_119 : xe_code 40 119 = some (.imul, []) := by decide +kernel
theorem kc_40_120 : xe_code 40 120 = some (.bipush 100, []) := by decide +kernel
theorem kc_40_122 : xe_code 40 122 = some (.idiv, []) := by decide +kernel
theorem kc_40_123 : xe_code 40 123 = some (.istore 7, []) := by decide +kernel
theorem kc_40_125 : xe_code 40 125 = some (.iload 7, []) := by decide +kernel
theorem kc_40_127 : xe_code 40 127 = some (.ifCond .ge 7, [134]) := by decide +kernel
theorem kc_40_130 : xe_code 40 130 = some (.iconst 0, []) := by decide +kernel
theorem kc_40_131 : xe_code 40 131 = some (.goto 13, [144]) := by decide +kernel
theorem kc_40_134 : xe_code 40 134 = some (.iload_n 2, []) := by decide +kernel
theorem kc_40_135 : xe_code 40 135 = some (.i2l, []) := by decide +kernel
theorem kc_40_136 : xe_code 40 136 = some (.iload 7, []) := by decide +kernel
theorem kc_40_138 : xe_code 40 138 = some (.i2l, []) := by decide +kernel
theorem kc_40_139 : xe_code 40 139 = some (.lmul, []) := by decide +kernel
theorem kc_40_140 : xe_code 40 140 = some (.iload_n 3, []) := by decide +kernel
theorem kc_40_141 : xe_code 40 141 = some (.i2l, []) := by decide +kernel
theorem kc_40_142 : xe_code 40 142 = some (.ldiv, []) := by decide +kernel
theorem kc_40_143 : xe_code 40 143 = some (.l2i, []) := by decide +kernel
theorem kc_40_144 : xe_code 40 144 = some (.istore 8, []) := by decide +kernel
theorem kc_40_146 : xe_code 40 146 = some (.aload_n 0, []) := by decide +kernel
theorem kc_40_147 : xe_code 40 147 = some (.getfield 93, [12, 31, 978]) := by decide +kernel
theorem kc_40_150 : xe_code 40 150 = some (.iload 6, []) := by decide +kernel
theorem kc_40_152 : xe_code 40 152 = some (.aload_n 0, []) := by decide +kernel
theorem kc_40_153 : xe_code 40 153 = some (.getfield 93, [12, 31, 978]) := by decide +kernel
theorem kc_40_156 : xe_code 40 156 = some (.iload 6, []) := by decide +kernel
theorem kc_40_158 : xe_code 40 158 = some (.iaload, []) := by decide +kernel
theorem kc_40_159 : xe_code 40 159 = some (.iload 8, []) := by decide +kernel
theorem kc_40_161 : xe_code 40 161 = some (.iadd, []) := by decide +kernel
theorem kc_40_162 : xe_code 40 162 = some (.invokestatic 232, [39, 1, 1259, 12]) := by decide +kernel
theorem kc_40_165 : xe_code 40 165 = some (.iastore, []) := by decide +kernel
theorem kc_40_166 : xe_code 40 166 = some (.iload 5, []) := by decide +kernel
theorem kc_40_168 : xe_code 40 168 = some (.iload 8, []) := by decide +kernel
theorem kc_40_170 : xe_code 40 170 = some (.isub, []) := by decide +kernel
theorem kc_40_171 : xe_code 40 171 = some (.istore 5, []) := by decide +kernel
theorem kc_40_173 : xe_code 40 173 = some (.iinc 6 1, []) := by decide +kernel
theorem kc_40_176 : xe_code 40 176 = some (.goto (-97), [79]) := by decide +kernel
theorem kc_40_179 : xe_code 40 179 = some (.iload 4, []) := by decide +kernel
theorem kc_40_181 : xe_code 40 181 = some (.ifCond .lt 23, [204]) := by decide +kernel
theorem kc_40_184 : xe_code 40 184 = some (.aload_n 0, []) := by decide +kernel
theorem kc_40_185 : xe_code 40 185 = some (.getfield 93, [12, 31, 978]) := by decide +kernel
theorem kc_40_188 : xe_code 40 188 = some (.iload 4, []) := by decide +kernel
theorem kc_40_190 : xe_code 40 190 = some (.aload_n 0, []) := by decide +kernel
theorem kc_40_191 : xe_code 40 191 = some (.getfield 93, [12, 31, 978]) := by decide +kernel
theorem kc_40_194 : xe_code 40 194 = some (.iload 4, []) := by decide +kernel
theorem kc_40_196 : xe_code 40 196 = some (.iaload, []) := by decide +kernel
theorem kc_40_197 : xe_code 40 197 = some (.iload 5, []) := by decide +kernel
theorem kc_40_199 : xe_code 40 199 = some (.iadd, []) := by decide +kernel
theorem kc_40_200 : xe_code 40 200 = some (.invokestatic 232, [39, 1, 1259, 12]) := by decide +kernel
theorem kc_40_203 : xe_code 40 203 = some (.iastore, []) := by decide +kernel
theorem kc_40_204 : xe_code 40 204 = some (.return_, []) := by decide +kernel
theorem kc_41_0 : xe_code 41 0 = some (.aload_n 0, []) := by decide +kernel
theorem kc_41_1 : xe_code 41 1 = some (.iload_n 1, []) := by decide +kernel
theorem kc_41_2 : xe_code 41 2 = some (.iconst 0, []) := by decide +kernel
theorem kc_41_3 : xe_code 41 3 = some (.aload_n 0, []) := by decide +kernel
theorem kc_41_4 : xe_code 41 4 = some (.invokevirtual 262, [42, 0, 1270, 12]) := by decide +kernel
theorem kc_41_7 : xe_code 41 7 = some (.iconst 1, []) := by decide +kernel
theorem kc_41_8 : xe_code 41 8 = some (.isub, []) := by decide +kernel
theorem kc_41_9 : xe_code 41 9 = some (.invokestatic 173, [11, 3, 1148, 12]) := by decide +kernel
theorem kc_41_12 : xe_code 41 12 = some (.ifCond .eq 7, [19]) := by decide +kernel
theorem kc_41_15 : xe_code 41 15 = some (.iconst 0, []) := by decide +kernel
theorem kc_41_16 : xe_code 41 16 = some (.goto 4, [20]) := by decide +kernel
theorem kc_41_19 : xe_code 41 19 = some (.iconst 1, []) := by decide +kernel
theorem kc_41_20 : xe_code 41 20 = some (.putfield 169, [12, 0, 947]) := by decide +kernel
theorem kc_41_23 : xe_code 41 23 = some (.aload_n 0, []) := by decide +kernel
theorem kc_41_24 : xe_code 41 24 = some (.getfield 169, [12, 0, 947]) := by decide +kernel
theorem kc_41_27 : xe_code 41 27 = some (.ifCond .le 5, [32]) := by decide +kernel
theorem kc_41_30 : xe_code 41 30 = some (.lconst 0, []) := by decide +kernel
theorem kc_41_31 : xe_code 41 31 = some (.lreturn, []) := by decide +kernel
theorem kc_41_32 : xe_code 41 32 = some (.aload_n 0, []) := by decide +kernel
theorem kc_41_33 : xe_code 41 33 = some (.invokevirtual 270, [43, 0, 1274, 12]) := by decide +kernel
theorem kc_41_36 : xe_code 41 36 = some (.aload_n 0, []) := by decide +kernel
theorem kc_41_37 : xe_code 41 37 = some (.getfield 114, [12, 42, 989]) := by decide +kernel
theorem kc_41_40 : xe_code 41 40 = some (.iload_n 1, []) := by decide +kernel
theorem kc_41_41 : xe_code 41 41 = some (.laload, []) := by decide +kernel
theorem kc_41_42 : xe_code 41 42 = some (.lreturn, []) := by decide +kernel
theorem kc_42_0 : xe_code 42 0 = some (.iconst 1, []) := by decide +kernel
theorem kc_42_1 : xe_code 42 1 = some (.aload_n 0, []) := by decide +kernel
theorem kc_42_2 : xe_code 42 2 = some (.getfield 225, [12, 23, 970]) := by decide +kernel
theorem kc_42_5 : xe_code 42 5 = some (.bipush 6, []) := by decide +kernel
theorem kc_42_7 : xe_code 42 7 = some (.if_icmp .ge 10, [17]) := by decide +kernel
theorem kc_42_10 : xe_code 42 10 = some (.aload_n 0, []) := by decide +kernel
theorem kc_42_11 : xe_code 42 11 = some (.getfield 225, [12, 23, 970]) := by decide +kernel
theorem kc_42_14 : xe_code 42 14 = some (.goto 5, [19]) := by decide +kernel
theorem kc_42_17 : xe_code 42 17 = some (.bipush 6, []) := by decide +kernel
theorem kc_42_19 : xe_code 42 19 = some (.ishl, []) := by decide +kernel
theorem kc_42_20 : xe_code 42 20 = some (.ireturn, []) := by decide +kernel
theorem kc_43_0 : xe_code 43 0 = some (.aload_n 0, []) := by decide +kernel
theorem kc_43_1 : xe_code 43 1 = some (.getfield 181, [12, 41, 988]) := by decide +kernel
theorem kc_43_4 : xe_code 43 4 = some (.ifCond .eq 4, [8]) := by decide +kernel
theorem kc_43_7 : xe_code 43 7 = some (.return_, []) := by decide +kernel
theorem kc_43_8 : xe_code 43 8 = some (.aload_n 0, []) := by decide +kernel
theorem kc_43_9 : xe_code 43 9 = some (.iconst 1, []) := by decide +kernel
theorem kc_43_10 : xe_code 43 10 = some (.putfield 181, [12, 41, 988]) := by decide +kernel
theorem kc_43_13 : xe_code 43 13 = some (.aload_n 0, []) := by decide +kernel
theorem kc_43_14 : xe_code 43 14 = some (.invokevirtual 259, [44, 0, 1278, 12]) := by decide +kernel
theorem kc_43_17 : xe_code 43 17 = some (.iconst 0, []) := by decide +kernel
theorem kc_43_18 : xe_code 43 18 = some (.istore_n 1, []) := by decide +kernel
theorem kc_43_19 : xe_code 43 19 = some (.iload_n 1, []) := by decide +kernel
theorem kc_43_20 : xe_code 43 20 = some (.aload_n 0, []) := by decide +kernel
theorem kc_43_21 : xe_code 43 21 = some (.invokevirtual 262, [42, 0, 1270, 12]) := by decide +kernel
theorem kc_43_24 : xe_code 43 24 = some (.if_icmp .ge 20, [44]) := by decide +kernel
theorem kc_43_27 : xe_code 43 27 = some (.aload_n 0, []) := by decide +kernel
theorem kc_43_28 : xe_code 43 28 = some (.getfield 114, [12, 42, 989]) := by decide +kernel
theorem kc_43_31 : xe_code 43 31 = some (.iload_n 1, []) := by decide +kernel
theorem kc_43_32 : xe_code 43 32 = some (.aload_n 0, []) := by decide +kernel
theorem kc_43_33 : xe_code 43 33 = some (.iload_n 1, []) := by decide +kernel
theorem kc_43_34 : xe_code 43 34 = some (.invokevirtual 266, [45, 1, 1282, 12]) := by decide +kernel
theorem kc_43_37 : xe_code 43 37 = some (.lastore, []) := by decide +kernel
theorem kc_43_38 : xe_code 43 38 = some (.iinc 1 1, []) := by decide +kernel
theorem kc_43_41 : xe_code 43 41 = some (.goto (-22), [19]) := by decide +kernel
theorem kc_43_44 : xe_code 43 44 = some (.return_, []) := by decide +kernel
theorem kc_44_0 : xe_code 44 0 = some (.iconst 5, []) := by decide +kernel
theorem kc_44_1 : xe_code 44 1 = some (.istore_n 1, []) := by decide +kernel
theorem kc_44_2 : xe_code 44 2 = some (.iconst 0, []) := by decide +kernel
theorem kc_44_3 : xe_code 44 3 = some (.istore_n 2, []) := by decide +kernel
theorem kc_44_4 : xe_code 44 4 = some (.iconst 0, []) := by decide +kernel
theorem kc_44_5 : xe_code 44 5 = some (.istore_n 3, []) := by decide +kernel
theorem kc_44_6 : xe_code 44 6 = some (.iload_n 3, []) := by decide +kernel
theorem kc_44_7 : xe_code 44 7 = some (.sipush 600, []) := by decide +kernel
theorem kc_44_10 : xe_code 44 10 = some (.if_icmp .ge 67, [77]) := by decide +kernel
theorem kc_44_13 : xe_code 44 13 = some (.aload_n 0, []) := by decide +kernel
theorem kc_44_14 : xe_code 44 14 = some (.getfield 31, [12, 9, 956]) := by decide +kernel
theorem kc_44_17 : xe_code 44 17 = some (.iload_n 3, []) := by decide +kernel
theorem kc_44_18 : xe_code 44 18 = some (.iaload, []) := by decide +kernel
theorem kc_44_19 : xe_code 44 19 = some (.bipush 99, []) := by decide +kernel
theorem kc_44_21 : xe_code 44 21 = some (.if_icmp .ne 7, [28]) := by decide +kernel
theorem kc_44_24 : xe_code 44 24 = some (.iload_n 1, []) := by decide +kernel
theorem kc_44_25 : xe_code 44 25 = some (.goto 9, [34]) := by decide +kernel
theorem kc_44_28 : xe_code 44 28 = some (.aload_n 0, []) := by decide +kernel
theorem kc_44_29 : xe_code 44 29 = some (.getfield 31, [12, 9, 956]) := by decide +kernel
theorem kc_44_32 : xe_code 44 32 = some (.iload_n 3, []) := by decide +kernel
theorem kc_44_33 : xe_code 44 33 = some (.iaload, []) := by decide +kernel
theorem kc_44_34 : xe_code 44 34 = some (.istore_n 1, []) := by decide +kernel
theorem kc_44_35 : xe_code 44 35 = some (.aload_n 0, []) := by decide +kernel
theorem kc_44_36 : xe_code 44 36 = some (.getfield 34, [12, 10, 957]) := by decide +kernel
theorem kc_44_39 : xe_code 44 39 = some (.iload_n 3, []) := by decide +kernel
theorem kc_44_40 : xe_code 44 40 = some (.iaload, []) := by decide +kernel
theorem kc_44_41 : xe_code 44 41 = some (.bipush 99, []) := by decide +kernel
theorem kc_44_43 : xe_code 44 43 = some (.if_icmp .ne 7, [50]) := by decide +kernel
theorem kc_44_46 : xe_code 44 46 = some (.iload_n 2, []) := by decide +kernel
theorem kc_44_47 : xe_code 44 47 = some (.goto 9, [56]) := by decide +kernel
theorem kc_44_50 : xe_code 44 50 = some (.aload_n 0, []) := by decide +kernel
theorem kc_44_51 : xe_code 44 51 = some (.getfield 34, [12, 10, 957]) := by decide +kernel
theorem kc_44_54 : xe_code 44 54 = some (.iload_n 3, []) := by decide +kernel
theorem kc_44_55 : xe_code 44 55 = some (.iaload, []) := by decide +kernel
theorem kc_44_56 : xe_code 44 56 = some (.istore_n 2, []) := by decide +kernel
theorem kc_44_57 : xe_code 44 57 = some (.aload_n 0, []) := by decide +kernel
theorem kc_44_58 : xe_code 44 58 = some (.getfield 118, [12, 43, 990]) := by decide +kernel
theorem kc_44_61 : xe_code 44 61 = some (.iload_n 3, []) := by decide +kernel
theorem kc_44_62 : xe_code 44 62 = some (.iload_n 1, []) := by decide +kernel
theorem kc_44_63 : xe_code 44 63 = some (.iastore, []) := by decide +kernel
theorem kc_44_64 : xe_code 44 64 = some (.aload_n 0, []) := by decide +kernel
theorem kc_44_65 : xe_code 44 65 = some (.getfield 121, [12, 44, 991]) := by decide +kernel
theorem kc_44_68 : xe_code 44 68 = some (.iload_n 3, []) := by decide +kernel
theorem kc_44_69 : xe_code 44 69 = some (.iload_n 2, []) := by decide +kernel
theorem kc_44_70 : xe_code 44 70 = some (.iastore, []) := by decide +kernel
theorem kc_44_71 : xe_code 44 71 = some (.iinc 3 1, []) := by decide +kernel
theorem kc_44_74 : xe_code 44 74 = some (.goto (-68), [6]) := by decide +kernel
theorem kc_44_77 : xe_code 44 77 = some (.return_, []) := by decide +kernel
theorem kc_45_0 : xe_code 45 0 = some (.lconst 0, []) := by decide +kernel
theorem kc_45_1 : xe_code 45 1 = some (.lstore_n 2, []) := by decide +kernel
theorem kc_45_2 : xe_code 45 2 = some (.iconst 0, []) := by decide +kernel
theorem kc_45_3 : xe_code 45 3 = some (.istore 4, []) := by decide +kernel
theorem kc_45_5 : xe_code 45 5 = some (.iconst 0, []) := by decide +kernel
theorem kc_45_6 : xe_code 45 6 = some (.istore 5, []) := by decide +kernel
theorem kc_45_8 : xe_code 45 8 = some (.iload 5, []) := by decide +kernel
theorem kc_45_10 : xe_code 45 10 = some (.bipush 6, []) := by decide +kernel
theorem kc_45_12 : xe_code 45 12 = some (.if_icmp .ge 17, [29]) := by decide +kernel
theorem kc_45_15 : xe_code 45 15 = some (.aload_n 0, []) := by decide +kernel
theorem kc_45_16 : xe_code 45 16 = some (.getfield 90, [12, 30, 977]) := by decide +kernel
theorem kc_45_19 : xe_code 45 19 = some (.iload 5, []) := by decide +kernel
theorem kc_45_21 : xe_code 45 21 = some (.iconst 0, []) := by decide +kernel
theorem kc_45_22 : xe_code 45 22 = some (.iastore, []) := by decide +kernel
theorem kc_45_23 : xe_code 45 23 = some (.iinc 5 1, []) := by decide +kernel
theorem kc_45_26 : xe_code 45 26 = some (.goto (-18), [8]) := by decide +kernel
theorem kc_45_29 : xe_code 45 29 = some (.iconst 0, []) := by decide +kernel
theorem kc_45_30 : xe_code 45 30 = some (.istore 5, []) := by decide +kernel
theorem kc_45_32 : xe_code 45 32 = some (.iload 5, []) := by decide +kernel
theorem kc_45_34 : xe_code 45 34 = some (.bipush 12, []) := by decide +kernel
theorem kc_45_36 : xe_code 45 36 = some (.if_icmp .ge 17, [53]) := by decide +kernel
theorem kc_45_39 : xe_code 45 39 = some (.aload_n 0, []) := by decide +kernel
theorem kc_45_40 : xe_code 45 40 = some (.getfield 93, [12, 31, 978]) := by decide +kernel
theorem kc_45_43 : xe_code 45 43 = some (.iload 5, []) := by decide +kernel
theorem kc_45_45 : xe_code 45 45 = some (.iconst 0, []) := by decide +kernel
theorem kc_45_46 : xe_code 45 46 = some (.iastore, []) := by decide +kernel
theorem kc_45_47 : xe_code 45 47 = some (.iinc 5 1, []) := by decide +kernel
theorem kc_45_50 : xe_code 45 50 = some (.goto (-18), [32]) := by decide +kernel
theorem kc_45_53 : xe_code 45 53 = some (.iconst 0, []) := by decide +kernel
theorem kc_45_54 : xe_code 45 54 = some (.istore 5, []) := by decide +kernel
theorem kc_45_56 : xe_code 45 56 = some (.iload 5, []) := by decide +kernel
theorem kc_45_58 : xe_code 45 58 = some (.aload_n 0, []) := by decide +kernel
theorem kc_45_59 : xe_code 45 59 = some (.getfield 213, [12, 1, 948]) := by decide +kernel
theorem kc_45_62 : xe_code 45 62 = some (.if_icmp .gt 159, [221]) := by decide +kernel
theorem kc_45_65 : xe_code 45 65 = some (.iload 4, []) := by decide +kernel
theorem kc_45_67 : xe_code 45 67 = some (.aload_n 0, []) := by decide +kernel
theorem kc_45_68 : xe_code 45 68 = some (.getfield 222, [12, 18, 965]) := by decide +kernel
theorem kc_45_71 : xe_code 45 71 = some (.if_icmp .ge 105, [176]) := by decide +kernel
theorem kc_45_74 : xe_code 45 74 = some (.aload_n 0, []) := by decide +kernel
theorem kc_45_75 : xe_code 45 75 = some (.getfield 63, [12, 20, 967]) := by decide +kernel
theorem kc_45_78 : xe_code 45 78 = some (.iload 4, []) := by decide +kernel
theorem kc_45_80 : xe_code 45 80 = some (.iaload, []) := by decide +kernel
theorem kc_45_81 : xe_code 45 81 = some (.iload 5, []) := by decide +kernel
theorem kc_45_83 : xe_code 45 83 = some (.if_icmp .ne 93, [176]) := by decide +kernel
theorem kc_45_86 : xe_code 45 86 = some (.aload_n 0, []) := by decide +kernel
theorem kc_45_87 : xe_code 45 87 = some (.getfield 93, [12, 31, 978]) := by decide +kernel
theorem kc_45_90 : xe_code 45 90 = some (.aload_n 0, []) := by decide +kernel
theorem kc_45_91 : xe_code 45 91 = some (.getfield 60, [12, 19, 966]) := by decide +kernel
theorem kc_45_94 : xe_code 45 94 = some (.iload 4, []) := by decide +kernel
theorem kc_45_96 : xe_code 45 96 = some (.iaload, []) := by decide +kernel
theorem kc_45_97 : xe_code 45 97 = some (.iaload, []) := by decide +kernel
theorem kc_45_98 : xe_code 45 98 = some (.istore 6, []) := by decide +kernel
theorem kc_45_100 : xe_code 45 100 = some (.aload_n 0, []) := by decide +kernel
theorem kc_45_101 : xe_code 45 101 = some (.getfield 66, [12, 21, 968]) := by decide +kernel
theorem kc_45_104 : xe_code 45 104 = some (.iload 4, []) := by decide +kernel
theorem kc_45_106 : xe_code 45 106 = some (.iaload, []) := by decide +kernel
theorem kc_45_107 : xe_code 45 107 = some (.aload_n 0, []) := by decide +kernel
theorem kc_45_108 : xe_code 45 108 = some (.getfield 69, [12, 22, 969]) := by decide +kernel
theorem kc_45_111 : xe_code 45 111 = some (.iload 4, []) := by decide +kernel
theorem kc_45_113 : xe_code 45 113 = some (.iaload, []) := by decide +kernel
theorem kc_45_114 : xe_code 45 114 = some (.isub, []) := by decide +kernel
theorem kc_45_115 : xe_code 45 115 = some (.istore 7, []) := by decide +kernel
theorem kc_45_117 : xe_code 45 117 = some (.aload_n 0, []) := by decide +kernel
theorem kc_45_118 : xe_code 45 118 = some (.getfield 66, [12, 21, 968]) := by decide +kernel
theorem kc_45_121 : xe_code 45 121 = some (.iload 4, []) := by decide +kernel
theorem kc_45_123 : xe_code 45 123 = some (.iaload, []) := by decide +kernel
theorem kc_45_124 : xe_code 45 124 = some (.aload_n 0, []) := by decide +kernel
theorem kc_45_125 : xe_code 45 125 = some (.getfield 69, [12, 22, 969]) := by decide +kernel
theorem kc_45_128 : xe_code 45 128 = some (.iload 4, []) := by decide +kernel
theorem kc_45_130 : xe_code 45 130 = some (.iaload, []) := by decide +kernel
theorem kc_45_131 : xe_code 45 131 = some (.iadd, []) := by decide +kernel
theorem kc_45_132 : xe_code 45 132 = some (.istore 8, []) := by decide +kernel
theorem kc_45_134 : xe_code 45 134 = some (.lload_n 2, []) := by decide +kernel
theorem kc_45_135 : xe_code 45 135 = some (.iload 6, []) := by decide +kernel
theorem kc_45_137 : xe_code 45 137 = some (.iload 7, []) := by decide +kernel
theorem kc_45_139 : xe_code 45 139 = some (.if_icmp .ge 12, [151]) := by decide +kernel
theorem kc_45_142 : xe_code 45 142 = some (.iload 7, []) := by decide +kernel
theorem kc_45_144 : xe_code 45 144 = some (.iload 6, []) := by decide +kernel
theorem kc_45_146 : xe_code 45 146 = some (.isub, []) := by decide +kernel
theorem kc_45_147 : xe_code 45 147 = some (.i2l, []) := by decide +kernel
theorem kc_45_148 : xe_code 45 148 = some (.goto 20, [168]) := by decide +kernel
theorem kc_45_151 : xe_code 45 151 = some (.iload 6, []) := by decide +kernel
theorem kc_45_153 : xe_code 45 153 = some (.iload 8, []) := by decide +kernel
theorem kc_45_155 : xe_code 45 155 = some (.if_icmp .le 12, [167]) := by decide +kernel
theorem kc_45_158 : xe_code 45 158 = some (.iload 6, []) := by decide +kernel
theorem kc_45_160 : xe_code 45 160 = some (.iload 8, []) := by decide +kernel
theorem kc_45_162 : xe_code 45 162 = some (.isub, []) := by decide +kernel
theorem kc_45_163 : xe_code 45 163 = some (.i2l, []) := by decide +kernel
theorem kc_45_164 : xe_code 45 164 = some (.goto 4, [168]) := by decide +kernel
theorem kc_45_167 : xe_code 45 167 = some (.lconst 0, []) := by decide +kernel
theorem kc_45_168 : xe_code 45 168 = some (.ladd, []) := by decide +kernel
theorem kc_45_169 : xe_code 45 169 = some (.lstore_n 2, []) := by decide +kernel
theorem kc_45_170 : xe_code 45 170 = some (.iinc 4 1, []) := by decide +kernel
theorem kc_45_173 : xe_code 45 173 = some (.goto (-108), [65]) := by decide +kernel
theorem kc_45_176 : xe_code 45 176 = some (.iload 5, []) := by decide +kernel
theorem kc_45_178 : xe_code 45 178 = some (.aload_n 0, []) := by decide +kernel
theorem kc_45_179 : xe_code 45 179 = some (.getfield 213, [12, 1, 948]) := by decide +kernel
theorem kc_45_182 : xe_code 45 182 = some (.if_icmp .ge 33, [215]) := by decide +kernel
theorem kc_45_185 : xe_code 45 185 = some (.aload_n 0, []) := by decide +kernel
theorem kc_45_186 : xe_code 45 186 = some (.aload_n 0, []) := by decide +kernel
theorem kc_45_187 : xe_code 45 187 = some (.getfield 118, [12, 43, 990]) := by decide +kernel
theorem kc_45_190 : xe_code 45 190 = some (.iload 5, []) := by decide +kernel
theorem kc_45_192 : xe_code 45 192 = some (.iaload, []) := by decide +kernel
theorem kc_45_193 : xe_code 45 193 = some (.putfield 235, [12, 32, 979]) := by decide +kernel
theorem kc_45_196 : xe_code 45 196 = some (.aload_n 0, []) := by decide +kernel
theorem kc_45_197 : xe_code 45 197 = some (.aload_n 0, []) := by decide +kernel
theorem kc_45_198 : xe_code 45 198 = some (.getfield 121, [12, 44, 991]) := by decide +kernel
theorem kc_45_201 : xe_code 45 201 = some (.iload 5, []) := by decide +kernel
theorem kc_45_203 : xe_code 45 203 = some (.iaload, []) := by decide +kernel
theorem kc_45_204 : xe_code 45 204 = some (.putfield 246, [12, 33, 980]) := by decide +kernel
theorem kc_45_207 : xe_code 45 207 = some (.aload_n 0, []) := by decide +kernel
theorem kc_45_208 : xe_code 45 208 = some (.iload_n 1, []) := by decide +kernel
theorem kc_45_209 : xe_code 45 209 = some (.iconst 0, []) := by decide +kernel
theorem kc_45_210 : xe_code 45 210 = some (.iload 5, []) := by decide +kernel
theorem kc_45_212 : xe_code 45 212 = some (.invokevirtual 252, [36, 3, 1247, 12]) := by decide +kernel
theorem kc_45_215 : xe_code 45 215 = some (.iinc 5 1, []) := by decide +kernel
theorem kc_45_218 : xe_code 45 218 = some (.goto (-162), [56]) := by decide +kernel
theorem kc_45_221 : xe_code 45 221 = some (.lload_n 2, []) := by decide +kernel
theorem kc_45_222 : xe_code 45 222 = some (.lreturn, []) := by decide +kernel
theorem kc_46_0 : xe_code 46 0 = some (.aload_n 0, []) := by decide +kernel
theorem kc_46_1 : xe_code 46 1 = some (.iconst 0, []) := by decide +kernel
theorem kc_46_2 : xe_code 46 2 = some (.putfield 169, [12, 0, 947]) := by decide +kernel
theorem kc_46_5 : xe_code 46 5 = some (.aload_n 0, []) := by decide +kernel
theorem kc_46_6 : xe_code 46 6 = some (.iload_n 2, []) := by decide +kernel
theorem kc_46_7 : xe_code 46 7 = some (.invokevirtual 219, [31, 1, 1227, 12]) := by decide +kernel
theorem kc_46_10 : xe_code 46 10 = some (.ifCond .ne 9, [19]) := by decide +kernel
theorem kc_46_13 : xe_code 46 13 = some (.aload_n 0, []) := by decide +kernel
theorem kc_46_14 : xe_code 46 14 = some (.iconst (-1), []) := by decide +kernel
theorem kc_46_15 : xe_code 46 15 = some (.invokevirtual 188, [12, 1, 1151, 12]) := by decide +kernel
theorem kc_46_18 : xe_code 46 18 = some (.ireturn, []) := by decide +kernel
theorem kc_46_19 : xe_code 46 19 = some (.iload_n 1, []) := by decide +kernel
theorem kc_46_20 : xe_code 46 20 = some (.iconst 0, []) := by decide +kernel
theorem kc_46_21 : xe_code 46 21 = some (.aload_n 0, []) := by decide +kernel
theorem kc_46_22 : xe_code 46 22 = some (.invokevirtual 262, [42, 0, 1270, 12]) := by decide +kernel
theorem kc_46_25 : xe_code 46 25 = some (.iconst 1, []) := by decide +kernel
theorem kc_46_26 : xe_code 46 26 = some (.isub, []) := by decide +kernel
theorem kc_46_27 : xe_code 46 27 = some (.invokestatic 173, [11, 3, 1148, 12]) := by decide +kernel
theorem kc_46_30 : xe_code 46 30 = some (.ifCond .ne 10, [40]) := by decide +kernel
theorem kc_46_33 : xe_code 46 33 = some (.aload_n 0, []) := by decide +kernel
theorem kc_46_34 : xe_code 46 34 = some (.bipush (-2), []) := by decide +kernel
theorem kc_46_36 : xe_code 46 36 = some (.invokevirtual 188, [12, 1, 1151, 12]) := by decide +kernel
theorem kc_46_39 : xe_code 46 39 = some (.ireturn, []) := by decide +kernel
theorem kc_46_40 : xe_code 46 40 = some (.aload_n 0, []) := by decide +kernel
theorem kc_46_41 : xe_code 46 41 = some (.invokevirtual 259, [44, 0, 1278, 12]) := by decide +kernel
theorem kc_46_44 : xe_code 46 44 = some (.aload_n 0, []) := by decide +kernel
theorem kc_46_45 : xe_code 46 45 = some (.iload_n 1, []) := by decide +kernel
theorem kc_46_46 : xe_code 46 46 = some (.invokevirtual 266, [45, 1, 1282, 12]) := by decide +kernel
theorem kc_46_49 : xe_code 46 49 = some (.lstore_n 3, []) := by decide +kernel
theorem kc_46_50 : xe_code 46 50 = some (.aload_n 0, []) := by decide +kernel
theorem kc_46_51 : xe_code 46 51 = some (.getfield 93, [12, 31, 978]) := by decide +kernel
theorem kc_46_54 : xe_code 46 54 = some (.iload_n 2, []) := by decide +kernel
theorem kc_46_55 : xe_code 46 55 = some (.iaload, []) := by decide +kernel
theorem kc_46_56 : xe_code 46 56 = some (.ireturn, []) := by decide +kernel
theorem kc_47_0 : xe_code 47 0 = some (.aload_n 0, []) := by decide +kernel
theorem kc_47_1 : xe_code 47 1 = some (.iconst 0, []) := by decide +kernel
theorem kc_47_2 : xe_code 47 2 = some (.putfield 169, [12, 0, 947]) := by decide +kernel
theorem kc_47_5 : xe_code 47 5 = some (.aload_n 0, []) := by decide +kernel
theorem kc_47_6 : xe_code 47 6 = some (.invokevirtual 276, [48, 0, 1294, 12]) := by decide +kernel
theorem kc_47_9 : xe_code 47 9 = some (.ireturn, []) := by decide +kernel
theorem kc_48_0 : xe_code 48 0 = some (.aload_n 0, []) := by decide +kernel
theorem kc_48_1 : xe_code 48 1 = some (.invokevirtual 270, [43, 0, 1274, 12]) := by decide +kernel
theorem kc_48_4 : xe_code 48 4 = some (.iconst 0, []) := by decide +kernel
theorem kc_48_5 : xe_code 48 5 = some (.istore_n 1, []) := by decide +kernel
theorem kc_48_6 : xe_code 48 6 = some (.iconst 1, []) := by decide +kernel
theorem kc_48_7 : xe_code 48 7 = some (.istore_n 2, []) := by decide +kernel
theorem kc_48_8 : xe_code 48 8 = some (.iload_n 2, []) := by decide +kernel
theorem kc_48_9 : xe_code 48 9 = some (.aload_n 0, []) := by decide +kernel
theorem kc_48_10 : xe_code 48 10 = some (.invokevirtual 262, [42, 0, 1270, 12]) := by decide +kernel
theorem kc_48_13 : xe_code 48 13 = some (.if_icmp .ge 68, [81]) := by decide +kernel
theorem kc_48_16 : xe_code 48 16 = some (.aload_n 0, []) := by decide +kernel
theorem kc_48_17 : xe_code 48 17 = some (.getfield 114, [12, 42, 989]) := by decide +kernel
theorem kc_48_20 : xe_code 48 20 = some (.iload_n 2, []) := by decide +kernel
theorem kc_48_21 : xe_code 48 21 = some (.laload, []) := by decide +kernel
theorem kc_48_22 : xe_code 48 22 = some (.aload_n 0, []) := by decide +kernel
theorem kc_48_23 : xe_code 48 23 = some (.getfield 114, [12, 42, 989]) := by decide +kernel
theorem kc_48_26 : xe_code 48 26 = some (.iload_n 1, []) := by decide +kernel
theorem kc_48_27 : xe_code 48 27 = some (.laload, []) := by decide +kernel
theorem kc_48_28 : xe_code 48 28 = some (.lcmp, []) := by decide +kernel
theorem kc_48_29 : xe_code 48 29 = some (.ifCond .lt 30, [59]) := by decide +kernel
theorem kc_48_32 : xe_code 48 32 = some (.aload_n 0, []) := by decide +kernel
theorem kc_48_33 : xe_code 48 33 = some (.getfield 114, [12, 42, 989]) := by decide +kernel
theorem kc_48_36 : xe_code 48 36 = some (.iload_n 2, []) := by decide +kernel
theorem kc_48_37 : xe_code 48 37 = some (.laload, []) := by decide +kernel
theorem kc_48_38 : xe_code 48 38 = some (.aload_n 0, []) := by decide +kernel
theorem kc_48_39 : xe_code 48 39 = some (.getfield 114, [12, 42, 989]) := by decide +kernel
theorem kc_48_42 : xe_code 48 42 = some (.iload_n 1, []) := by decide +kernel
theorem kc_48_43 : xe_code 48 43 = some (.laload, []) := by decide +kernel
theorem kc_48_44 : xe_code 48 44 = some (.lcmp, []) := by decide +kernel
theorem kc_48_45 : xe_code 48 45 = some (.ifCond .ne 18, [63]) := by decide +kernel
theorem kc_48_48 : xe_code 48 48 = some (.iload_n 2, []) := by decide +kernel
theorem kc_48_49 : xe_code 48 49 = some (.invokestatic 273, [49, 1, 1298, 12]) := by decide +kernel
theorem kc_48_52 : xe_code 48 52 = some (.iload_n 1, []) := by decide +kernel
theorem kc_48_53 : xe_code 48 53 = some (.invokestatic 273, [49, 1, 1298, 12]) := by decide +kernel
theorem kc_48_56 : xe_code 48 56 = some (.if_icmp .ge 7, [63]) := by decide +kernel
theorem kc_48_59 : xe_code 48 59 = some (.iconst 1, []) := by decide +kernel
theorem kc_48_60 : xe_code 48 60 = some (.goto 4, [64]) := by decide +kernel
theorem kc_48_63 : xe_code 48 63 = some (.iconst 0, []) := by decide +kernel
theorem kc_48_64 : xe_code 48 64 = some (.istore_n 3, []) := by decide +kernel
theorem kc_48_65 : xe_code 48 65 = some (.iload_n 3, []) := by decide +kernel
theorem kc_48_66 : xe_code 48 66 = some (.ifCond .eq 7, [73]) := by decide +kernel
theorem kc_48_69 : xe_code 48 69 = some (.iload_n 2, []) := by decide +kernel
theorem kc_48_70 : xe_code 48 70 = some (.goto 4, [74]) := by decide +kernel
theorem kc_48_73 : xe_code 48 73 = some (.iload_n 1, []) := by decide +kernel
theorem kc_48_74 : xe_code 48 74 = some (.istore_n 1, []) := by decide +kernel
theorem kc_48_75 : xe_code 48 75 = some (.iinc 2 1, []) := by decide +kernel
theorem kc_48_78 : xe_code 48 78 = some (.goto (-70), [8]) := by decide +kernel
theorem kc_48_81 : xe_code 48 81 = some (.iload_n 1, []) := by decide +kernel
theorem kc_48_82 : xe_code 48 82 = some (.ireturn, []) := by decide +kernel
theorem kc_49_0 : xe_code 49 0 = some (.iconst 0, []) := by decide +kernel
theorem kc_49_1 : xe_code 49 1 = some (.istore_n 1, []) := by decide +kernel
theorem kc_49_2 : xe_code 49 2 = some (.iload_n 0, []) := by decide +kernel
theorem kc_49_3 : xe_code 49 3 = some (.istore_n 2, []) := by decide +kernel
theorem kc_49_4 : xe_code 49 4 = some (.iload_n 2, []) := by decide +kernel
theorem kc_49_5 : xe_code 49 5 = some (.ifCond .le 16, [21]) := by decide +kernel
theorem kc_49_8 : xe_code 49 8 = some (.iload_n 1, []) := by decide +kernel
theorem kc_49_9 : xe_code 49 9 = some (.iload_n 2, []) := by decide +kernel
theorem kc_49_10 : xe_code 49 10 = some (.iconst 2, []) := by decide +kernel
theorem kc_49_11 : xe_code 49 11 = some (.irem, []) := by decide +kernel
theorem kc_49_12 : xe_code 49 12 = some (.iadd, []) := by decide +kernel
theorem kc_49_13 : xe_code 49 13 = some (.istore_n 1, []) := by decide +kernel
theorem kc_49_14 : xe_code 49 14 = some (.iload_n 2, []) := by decide +kernel
theorem kc_49_15 : xe_code 49 15 = some (.iconst 2, []) := by decide +kernel
theorem kc_49_16 : xe_code 49 16 = some (.idiv, []) := by decide +kernel
theorem kc_49_17 : xe_code 49 17 = some (.istore_n 2, []) := by decide +kernel
theorem kc_49_18 : xe_code 49 18 = some (.goto (-14), [4]) := by decide +kernel
theorem kc_49_21 : xe_code 49 21 = some (.iload_n 1, []) := by decide +kernel
theorem kc_49_22 : xe_code 49 22 = some (.ireturn, []) := by decide +kernel
theorem kc_50_0 : xe_code 50 0 = some (.aload_n 0, []) := by decide +kernel
theorem kc_50_1 : xe_code 50 1 = some (.iconst 0, []) := by decide +kernel
theorem kc_50_2 : xe_code 50 2 = some (.putfield 169, [12, 0, 947]) := by decide +kernel
theorem kc_50_5 : xe_code 50 5 = some (.iload_n 1, []) := by decide +kernel
theorem kc_50_6 : xe_code 50 6 = some (.iconst 0, []) := by decide +kernel
theorem kc_50_7 : xe_code 50 7 = some (.iconst 1, []) := by decide +kernel
theorem kc_50_8 : xe_code 50 8 = some (.invokestatic 173, [11, 3, 1148, 12]) := by decide +kernel
theorem kc_50_11 : xe_code 50 11 = some (.ifCond .ne 10, [21]) := by decide +kernel
theorem kc_50_14 : xe_code 50 14 = some (.aload_n 0, []) := by decide +kernel
theorem kc_50_15 : xe_code 50 15 = some (.bipush (-2), []) := by decide +kernel
theorem kc_50_17 : xe_code 50 17 = some (.invokevirtual 188, [12, 1, 1151, 12]) := by decide +kernel
theorem kc_50_20 : xe_code 50 20 = some (.ireturn, []) := by decide +kernel
theorem kc_50_21 : xe_code 50 21 = some (.aload_n 0, []) := by decide +kernel
theorem kc_50_22 : xe_code 50 22 = some (.invokevirtual 270, [43, 0, 1274, 12]) := by decide +kernel
theorem kc_50_25 : xe_code 50 25 = some (.iconst 0, []) := by decide +kernel
theorem kc_50_26 : xe_code 50 26 = some (.istore_n 2, []) := by decide +kernel
theorem kc_50_27 : xe_code 50 27 = some (.bipush 99, []) := by decide +kernel
theorem kc_50_29 : xe_code 50 29 = some (.istore_n 3, []) := by decide +kernel
theorem kc_50_30 : xe_code 50 30 = some (.iconst 0, []) := by decide +kernel
theorem kc_50_31 : xe_code 50 31 = some (.istore 4, []) := by decide +kernel
theorem kc_50_33 : xe_code 50 33 = some (.iload 4, []) := by decide +kernel
theorem kc_50_35 : xe_code 50 35 = some (.aload_n 0, []) := by decide +kernel
theorem kc_50_36 : xe_code 50 36 = some (.invokevirtual 262, [42, 0, 1270, 12]) := by decide +kernel
theorem kc_50_39 : xe_code 50 39 = some (.if_icmp .ge 70, [109]) := by decide +kernel
theorem kc_50_42 : xe_code 50 42 = some (.aload_n 0, []) := by decide +kernel
theorem kc_50_43 : xe_code 50 43 = some (.getfield 114, [12, 42, 989]) := by decide +kernel
theorem kc_50_46 : xe_code 50 46 = some (.iload 4, []) := by decide +kernel
theorem kc_50_48 : xe_code 50 48 = some (.laload, []) := by decide +kernel
theorem kc_50_49 : xe_code 50 49 = some (.lconst 0, []) := by decide +kernel
theorem kc_50_50 : xe_code 50 50 = some (.lcmp, []) := by decide +kernel
theorem kc_50_51 : xe_code 50 51 = some (.ifCond .ne 52, [103]) := by decide +kernel
theorem kc_50_54 : xe_code 50 54 = some (.iload 4, []) := by decide +kernel
theorem kc_50_56 : xe_code 50 56 = some (.invokestatic 273, [49, 1, 1298, 12]) := by decide +kernel
theorem kc_50_59 : xe_code 50 59 = some (.iload_n 3, []) := by decide +kernel
theorem kc_50_60 : xe_code 50 60 = some (.if_icmp .ge 7, [67]) := by decide +kernel
theorem kc_50_63 : xe_code 50 63 = some (.iconst 1, []) := by decide +kernel
theorem kc_50_64 : xe_code 50 64 = some (.goto 19, [83]) := by decide +kernel
theorem kc_50_67 : xe_code 50 67 = some (.iload 4, []) := by decide +kernel
theorem kc_50_69 : xe_code 50 69 = some (.invokestatic 273, [49, 1, 1298, 12]) := by decide +kernel
theorem kc_50_72 : xe_code 50 72 = some (.iload_n 3, []) := by decide +kernel
theorem kc_50_73 : xe_code 50 73 = some (.if_icmp .ne 9, [82]) := by decide +kernel
theorem kc_50_76 : xe_code 50 76 = some (.iload_n 2, []) := by decide +kernel
theorem kc_50_77 : xe_code 50 77 = some (.iconst 1, []) := by decide +kernel
theorem kc_50_78 : xe_code 50 78 = some (.iadd, []) := by decide +kernel
theorem kc_50_79 : xe_code 50 79 = some (.goto 4, [83]) := by decide +kernel
theorem kc_50_82 : xe_code 50 82 = some (.iload_n 2, []) := by decide +kernel
theorem kc_50_83 : xe_code 50 83 = some (.istore_n 2, []) := by decide +kernel
theorem kc_50_84 : xe_code 50 84 = some (.iload 4, []) := by decide +kernel
theorem kc_50_86 : xe_code 50 86 = some (.invokestatic 273, [49, 1, 1298, 12]) := by decide +kernel
theorem kc_50_89 : xe_code 50 89 = some (.iload_n 3, []) := by decide +kernel
theorem kc_50_90 : xe_code 50 90 = some (.if_icmp .ge 11, [101]) := by decide +kernel
theorem kc_50_93 : xe_code 50 93 = some (.iload 4, []) := by decide +kernel
theorem kc_50_95 : xe_code 50 95 = some (.invokestatic 273, [49, 1, 1298, 12]) := by decide +kernel
theorem kc_50_98 : xe_code 50 98 = some (.goto 4, [102]) := by decide +kernel
theorem kc_50_101 : xe_code 50 101 = some (.iload_n 3, []) := by decide +kernel
theorem kc_50_102 : xe_code 50 102 = some (.istore_n 3, []) := by decide +kernel
theorem kc_50_103 : xe_code 50 103 = some (.iinc 4 1, []) := by decide +kernel
theorem kc_50_106 : xe_code 50 106 = some (.goto (-73), [33]) := by decide +kernel
theorem kc_50_109 : xe_code 50 109 = some (.iload_n 2, []) := by decide +kernel
theorem kc_50_110 : xe_code 50 110 = some (.ifCond .ne 8, [118]) := by decide +kernel
theorem kc_50_113 : xe_code 50 113 = some (.bipush (-9), []) := by decide +kernel
theorem kc_50_115 : xe_code 50 115 = some (.goto 12, [127]) := by decide +kernel
theorem kc_50_118 : xe_code 50 118 = some (.iload_n 1, []) := by decide +kernel
theorem kc_50_119 : xe_code 50 119 = some (.ifCond .ne 7, [126]) := by decide +kernel
theorem kc_50_122 : xe_code 50 122 = some (.iload_n 2, []) := by decide +kernel
theorem kc_50_123 : xe_code 50 123 = some (.goto 4, [127]) := by decide +kernel
theorem kc_50_126 : xe_code 50 126 = some (.iload_n 3, []) := by decide +kernel
theorem kc_50_127 : xe_code 50 127 = some (.ireturn, []) := by decide +kernel
theorem kc_51_0 : xe_code 51 0 = some (.aload_n 0, []) := by decide +kernel
theorem kc_51_1 : xe_code 51 1 = some (.iconst 0, []) := by decide +kernel
theorem kc_51_2 : xe_code 51 2 = some (.putfield 169, [12, 0, 947]) := by decide +kernel
theorem kc_51_5 : xe_code 51 5 = some (.aload_n 0, []) := by decide +kernel
theorem kc_51_6 : xe_code 51 6 = some (.invokevirtual 288, [52, 0, 1309, 12]) := by decide +kernel
theorem kc_51_9 : xe_code 51 9 = some (.ireturn, []) := by decide +kernel
theorem kc_52_0 : xe_code 52 0 = some (.aload_n 0, []) := by decide +kernel
theorem kc_52_1 : xe_code 52 1 = some (.invokevirtual 270, [43, 0, 1274, 12]) := by decide +kernel
theorem kc_52_4 : xe_code 52 4 = some (.iconst 0, []) := by decide +kernel
theorem kc_52_5 : xe_code 52 5 = some (.istore_n 1, []) := by decide +kernel
theorem kc_52_6 : xe_code 52 6 = some (.iconst 0, []) := by decide +kernel
theorem kc_52_7 : xe_code 52 7 = some (.istore_n 2, []) := by decide +kernel
theorem kc_52_8 : xe_code 52 8 = some (.iload_n 2, []) := by decide +kernel
theorem kc_52_9 : xe_code 52 9 = some (.aload_n 0, []) := by decide +kernel
theorem kc_52_10 : xe_code 52 10 = some (.invokevirtual 262, [42, 0, 1270, 12]) := by decide +kernel
theorem kc_52_13 : xe_code 52 13 = some (.if_icmp .ge 25, [38]) := by decide +kernel
theorem kc_52_16 : xe_code 52 16 = some (.iload_n 1, []) := by decide +kernel
theorem kc_52_17 : xe_code 52 17 = some (.aload_n 0, []) := by decide +kernel
theorem kc_52_18 : xe_code 52 18 = some (.iload_n 2, []) := by decide +kernel
theorem kc_52_19 : xe_code 52 19 = some (.invokevirtual 285, [53, 1, 1313, 12]) := by decide +kernel
theorem kc_52_22 : xe_code 52 22 = some (.ifCond .eq 7, [29]) := by decide +kernel
theorem kc_52_25 : xe_code 52 25 = some (.iconst 1, []) := by decide +kernel
theorem kc_52_26 : xe_code 52 26 = some (.goto 4, [30]) := by decide +kernel
theorem kc_52_29 : xe_code 52 29 = some (.iconst 0, []) := by decide +kernel
theorem kc_52_30 : xe_code 52 30 = some (.iadd, []) := by decide +kernel
theorem kc_52_31 : xe_code 52 31 = some (.istore_n 1, []) := by decide +kernel
theorem kc_52_32 : xe_code 52 32 = some (.iinc 2 1, []) := by decide +kernel
theorem kc_52_35 : xe_code 52 35 = some (.goto (-27), [8]) := by decide +kernel
theorem kc_52_38 : xe_code 52 38 = some (.iload_n 1, []) := by decide +kernel
theorem kc_52_39 : xe_code 52 39 = some (.ireturn, []) := by decide +kernel
theorem kc_53_0 : xe_code 53 0 = some (.aload_n 0, []) := by decide +kernel
theorem kc_53_1 : xe_code 53 1 = some (.getfield 114, [12, 42, 989]) := by decide +kernel
theorem kc_53_4 : xe_code 53 4 = some (.iload_n 1, []) := by decide +kernel
theorem kc_53_5 : xe_code 53 5 = some (.laload, []) := by decide +kernel
theorem kc_53_6 : xe_code 53 6 = some (.lconst 0, []) := by decide +kernel
theorem kc_53_7 : xe_code 53 7 = some (.lcmp, []) := by decide +kernel
theorem kc_53_8 : xe_code 53 8 = some (.ifCond .ne 7, [15]) := by decide +kernel
theorem kc_53_11 : xe_code 53 11 = some (.iconst 1, []) := by decide +kernel
theorem kc_53_12 : xe_code 53 12 = some (.goto 4, [16]) := by decide +kernel
theorem kc_53_15 : xe_code 53 15 = some (.iconst 0, []) := by decide +kernel
theorem kc_53_16 : xe_code 53 16 = some (.istore_n 2, []) := by decide +kernel
theorem kc_53_17 : xe_code 53 17 = some (.iconst 0, []) := by decide +kernel
theorem kc_53_18 : xe_code 53 18 = some (.istore_n 3, []) := by decide +kernel
theorem kc_53_19 : xe_code 53 19 = some (.iload_n 3, []) := by decide +kernel
theorem kc_53_20 : xe_code 53 20 = some (.aload_n 0, []) := by decide +kernel
theorem kc_53_21 : xe_code 53 21 = some (.getfield 279, [12, 45, 992]) := by decide +kernel
theorem kc_53_24 : xe_code 53 24 = some (.if_icmp .ge 43, [67]) := by decide +kernel
theorem kc_53_27 : xe_code 53 27 = some (.iload_n 2, []) := by decide +kernel
theorem kc_53_28 : xe_code 53 28 = some (.ifCond .eq 31, [59]) := by decide +kernel
theorem kc_53_31 : xe_code 53 31 = some (.aload_n 0, []) := by decide +kernel
theorem kc_53_32 : xe_code 53 32 = some (.getfield 130, [12, 48, 995]) := by decide +kernel
theorem kc_53_35 : xe_code 53 35 = some (.iload_n 3, []) := by decide +kernel
theorem kc_53_36 : xe_code 53 36 = some (.iaload, []) := by decide +kernel
theorem kc_53_37 : xe_code 53 37 = some (.ifCond .eq 18, [55]) := by decide +kernel
theorem kc_53_40 : xe_code 53 40 = some (.aload_n 0, []) := by decide +kernel
theorem kc_53_41 : xe_code 53 41 = some (.getfield 130, [12, 48, 995]) := by decide +kernel
theorem kc_53_44 : xe_code 53 44 = some (.iload_n 3, []) := by decide +kernel
theorem kc_53_45 : xe_code 53 45 = some (.iaload, []) := by decide +kernel
theorem kc_53_46 : xe_code 53 46 = some (.aload_n 0, []) := by decide +kernel
theorem kc_53_47 : xe_code 53 47 = some (.iload_n 3, []) := by decide +kernel
theorem kc_53_48 : xe_code 53 48 = some (.iload_n 1, []) := by decide +kernel
theorem kc_53_49 : xe_code 53 49 = some (.invokevirtual 282, [54, 2, 1317, 12]) := by decide +kernel
theorem kc_53_52 : xe_code 53 52 = some (.if_icmp .ne 7, [59]) := by decide +kernel
theorem kc_53_55 : xe_code 53 55 = some (.iconst 1, []) := by decide +kernel
theorem kc_53_56 : xe_code 53 56 = some (.goto 4, [60]) := by decide +kernel
theorem kc_53_59 : xe_code 53 59 = some (.iconst 0, []) := by decide +kernel
theorem kc_53_60 : xe_code 53 60 = some (.istore_n 2, []) := by decide +kernel
theorem kc_53_61 : xe_code 53 61 = some (.iinc 3 1, []) := by decide +kernel
theorem kc_53_64 : xe_code 53 64 = some (.goto (-45), [19]) := by decide +kernel
theorem kc_53_67 : xe_code 53 67 = some (.iload_n 2, []) := by decide +kernel
theorem kc_53_68 : xe_code 53 68 = some (.ireturn, []) := by decide +kernel
theorem kc_54_0 : xe_code 54 0 = some (.aload_n 0, []) := by decide +kernel
theorem kc_54_1 : xe_code 54 1 = some (.getfield 124, [12, 46, 993]) := by decide +kernel
theorem kc_54_4 : xe_code 54 4 = some (.iload_n 1, []) := by decide +kernel
theorem kc_54_5 : xe_code 54 5 = some (.iaload, []) := by decide +kernel
theorem kc_54_6 : xe_code 54 6 = some (.iload_n 2, []) := by decide +kernel
theorem kc_54_7 : xe_code 54 7 = some (.iand, []) := by decide +kernel
theorem kc_54_8 : xe_code 54 8 = some (.ifCond .eq 7, [15]) := by decide +kernel
theorem kc_54_11 : xe_code 54 11 = some (.iconst 1, []) := by decide +kernel
theorem kc_54_12 : xe_code 54 12 = some (.goto 4, [16]) := by decide +kernel
theorem kc_54_15 : xe_code 54 15 = some (.iconst 2, []) := by decide +kernel
theorem kc_54_16 : xe_code 54 16 = some (.ireturn, []) := by decide +kernel
theorem kc_55_0 : xe_code 55 0 = some (.aload_n 0, []) := by decide +kernel
theorem kc_55_1 : xe_code 55 1 = some (.iconst 0, []) := by decide +kernel
theorem kc_55_2 : xe_code 55 2 = some (.putfield 169, [12, 0, 947]) := by decide +kernel
theorem kc_55_5 : xe_code 55 5 = some (.iload_n 1, []) := by decide +kernel
theorem kc_55_6 : xe_code 55 6 = some (.iconst 0, []) := by decide +kernel
theorem kc_55_7 : xe_code 55 7 = some (.bipush 63, []) := by decide +kernel
theorem kc_55_9 : xe_code 55 9 = some (.invokestatic 173, [11, 3, 1148, 12]) := by decide +kernel
theorem kc_55_12 : xe_code 55 12 = some (.ifCond .ne 10, [22]) := by decide +kernel
theorem kc_55_15 : xe_code 55 15 = some (.aload_n 0, []) := by decide +kernel
theorem kc_55_16 : xe_code 55 16 = some (.bipush (-2), []) := by decide +kernel
theorem kc_55_18 : xe_code 55 18 = some (.invokevirtual 188, [12, 1, 1151, 12]) := by decide +kernel
theorem kc_55_21 : xe_code 55 21 = some (.ireturn, []) := by decide +kernel
theorem kc_55_22 : xe_code 55 22 = some (.iload_n 2, []) := by decide +kernel
theorem kc_55_23 : xe_code 55 23 = some (.iconst 1, []) := by decide +kernel
theorem kc_55_24 : xe_code 55 24 = some (.if_icmp .ge 10, [34]) := by decide +kernel
theorem kc_55_27 : xe_code 55 27 = some (.aload_n 0, []) := by decide +kernel
theorem kc_55_28 : xe_code 55 28 = some (.bipush (-4), []) := by decide +kernel
theorem kc_55_30 : xe_code 55 30 = some (.invokevirtual 188, [12, 1, 1151, 12]) := by decide +kernel
theorem kc_55_33 : xe_code 55 33 = some (.ireturn, []) := by decide +kernel
theorem kc_55_34 : xe_code 55 34 = some (.iload_n 2, []) := by decide +kernel
theorem kc_55_35 : xe_code 55 35 = some (.sipush 999, []) := by decide +kernel
theorem kc_55_38 : xe_code 55 38 = some (.if_icmp .gt 12, [50]) := by decide +kernel
theorem kc_55_41 : xe_code 55 41 = some (.aload_n 0, []) := by decide +kernel
theorem kc_55_42 : xe_code 55 42 = some (.getfield 279, [12, 45, 992]) := by decide +kernel
theorem kc_55_45 : xe_code 55 45 = some (.bipush 8, []) := by decide +kernel
theorem kc_55_47 : xe_code 55 47 = some (.if_icmp .ne 10, [57]) := by decide +kernel
theorem kc_55_50 : xe_code 55 50 = some (.aload_n 0, []) := by decide +kernel
theorem kc_55_51 : xe_code 55 51 = some (.bipush (-6), []) := by decide +kernel
theorem kc_55_53 : xe_code 55 53 = some (.invokevirtual 188, [12, 1, 1151, 12]) := by decide +kernel
theorem kc_55_56 : xe_code 55 56 = some (.ireturn, []) := by decide +kernel
theorem kc_55_57 : xe_code 55 57 = some (.aload_n 0, []) := by decide +kernel
theorem kc_55_58 : xe_code 55 58 = some (.getfield 124, [12, 46, 993]) := by decide +kernel
theorem kc_55_61 : xe_code 55 61 = some (.aload_n 0, []) := by decide +kernel
theorem kc_55_62 : xe_code 55 62 = some (.getfield 279, [12, 45, 992]) := by decide +kernel
theorem kc_55_65 : xe_code 55 65 = some (.iload_n 1, []) := by decide +kernel
theorem kc_55_66 : xe_code 55 66 = some (.iastore, []) := by decide +kernel
theorem kc_55_67 : xe_code 55 67 = some (.aload_n 0, []) := by decide +kernel
theorem kc_55_68 : xe_code 55 68 = some (.getfield 127, [12, 47, 994]) := by decide +kernel
theorem kc_55_71 : xe_code 55 71 = some (.aload_n 0, []) := by decide +kernel
theorem kc_55_72 : xe_code 55 72 = some (.getfield 279, [12, 45, 992]) := by decide +kernel
theorem kc_55_75 : xe_code 55 75 = some (.iload_n 2, []) := by decide +kernel
theorem kc_55_76 : xe_code 55 76 = some (.iastore, []) := by decide +kernel
theorem kc_55_77 : xe_code 55 77 = some (.aload_n 0, []) := by decide +kernel
theorem kc_55_78 : xe_code 55 78 = some (.getfield 130, [12, 48, 995]) := by decide +kernel
theorem kc_55_81 : xe_code 55 81 = some (.aload_n 0, []) := by decide +kernel
theorem kc_55_82 : xe_code 55 82 = some (.getfield 279, [12, 45, 992]) := by decide +kernel
theorem kc_55_85 : xe_code 55 85 = some (.iconst 0, []) := by decide +kernel
theorem kc_55_86 : xe_code 55 86 = some (.iastore, []) := by decide +kernel
theorem kc_55_87 : xe_code 55 87 = some (.aload_n 0, []) := by decide +kernel
theorem kc_55_88 : xe_code 55 88 = some (.dup, []) := by decide +kernel
theorem kc_55_89 : xe_code 55 89 = some (.getfield 279, [12, 45, 992]) := by decide +kernel
theorem kc_55_92 : xe_code 55 92 = some (.iconst 1, []) := by decide +kernel
theorem kc_55_93 : xe_code 55 93 = some (.iadd, []) := by decide +kernel
theorem kc_55_94 : xe_code 55 94 = some (.putfield 279, [12, 45, 992]) := by decide +kernel
theorem kc_55_97 : xe_code 55 97 = some (.aload_n 0, []) := by decide +kernel
theorem kc_55_98 : xe_code 55 98 = some (.getfield 279, [12, 45, 992]) := by decide +kernel
theorem kc_55_101 : xe_code 55 101 = some (.iconst 1, []) := by decide +kernel
theorem kc_55_102 : xe_code 55 102 = some (.isub, []) := by decide +kernel
theorem kc_55_103 : xe_code 55 103 = some (.ireturn, []) := by decide +kernel
theorem kc_56_0 : xe_code 56 0 = some (.aload_n 0, []) := by decide +kernel
theorem kc_56_1 : xe_code 56 1 = some (.iconst 0, []) := by decide +kernel
theorem kc_56_2 : xe_code 56 2 = some (.putfield 169, [12, 0, 947]) := by decide +kernel
theorem kc_56_5 : xe_code 56 5 = some (.iload_n 1, []) := by decide +kernel
theorem kc_56_6 : xe_code 56 6 = some (.iconst 0, []) := by decide +kernel
theorem kc_56_7 : xe_code 56 7 = some (.aload_n 0, []) := by decide +kernel
theorem kc_56_8 : xe_code 56 8 = some (.getfield 279, [12, 45, 992]) := by decide +kernel
theorem kc_56_11 : xe_code 56 11 = some (.iconst 1, []) := by decide +kernel
theorem kc_56_12 : xe_code 56 12 = some (.isub, []) := by decide +kernel
theorem kc_56_13 : xe_code 56 13 = some (.invokestatic 173, [11, 3, 1148, 12]) := by decide +kernel
theorem kc_56_16 : xe_code 56 16 = some (.ifCond .ne 9, [25]) := by decide +kernel
theorem kc_56_19 : xe_code 56 19 = some (.aload_n 0, []) := by decide +kernel
theorem kc_56_20 : xe_code 56 20 = some (.iconst (-1), []) := by decide +kernel
theorem kc_56_21 : xe_code 56 21 = some (.invokevirtual 188, [12, 1, 1151, 12]) := by decide +kernel
theorem kc_56_24 : xe_code 56 24 = some (.ireturn, []) := by decide +kernel
theorem kc_56_25 : xe_code 56 25 = some (.aload_n 0, []) := by decide +kernel
theorem kc_56_26 : xe_code 56 26 = some (.getfield 130, [12, 48, 995]) := by decide +kernel
theorem kc_56_29 : xe_code 56 29 = some (.iload_n 1, []) := by decide +kernel
theorem kc_56_30 : xe_code 56 30 = some (.iaload, []) := by decide +kernel
theorem kc_56_31 : xe_code 56 31 = some (.ifCond .eq 10, [41]) := by decide +kernel
theorem kc_56_34 : xe_code 56 34 = some (.aload_n 0, []) := by decide +kernel
theorem kc_56_35 : xe_code 56 35 = some (.bipush (-3), []) := by decide +kernel
theorem kc_56_37 : xe_code 56 37 = some (.invokevirtual 188, [12, 1, 1151, 12]) := by decide +kernel
theorem kc_56_40 : xe_code 56 40 = some (.ireturn, []) := by decide +kernel
theorem kc_56_41 : xe_code 56 41 = some (.aload_n 0, []) := by decide +kernel
theorem kc_56_42 : xe_code 56 42 = some (.getfield 130, [12, 48, 995]) := by decide +kernel
theorem kc_56_45 : xe_code 56 45 = some (.iload_n 1, []) := by decide +kernel
theorem kc_56_46 : xe_code 56 46 = some (.iload_n 2, []) := by decide +kernel
theorem kc_56_47 : xe_code 56 47 = some (.ifCond .eq 7, [54]) := by decide +kernel
theorem kc_56_50 : xe_code 56 50 = some (.iconst 1, []) := by decide +kernel
theorem kc_56_51 : xe_code 56 51 = some (.goto 4, [55]) := by decide +kernel
theorem kc_56_54 : xe_code 56 54 = some (.iconst 2, []) := by decide +kernel
theorem kc_56_55 : xe_code 56 55 = some (.iastore, []) := by decide +kernel
theorem kc_56_56 : xe_code 56 56 = some (.aload_n 0, []) := by decide +kernel
theorem kc_56_57 : xe_code 56 57 = some (.invokevirtual 288, [52, 0, 1309, 12]) := by decide +kernel
theorem kc_56_60 : xe_code 56 60 = some (.ireturn, []) := by decide +kernel
theorem kc_57_0 : xe_code 57 0 = some (.aload_n 0, []) := by decide +kernel
theorem kc_57_1 : xe_code 57 1 = some (.iconst 0, []) := by decide +kernel
theorem kc_57_2 : xe_code 57 2 = some (.putfield 169, [12, 0, 947]) := by decide +kernel
theorem kc_57_5 : xe_code 57 5 = some (.aload_n 0, []) := by decide +kernel
theorem kc_57_6 : xe_code 57 6 = some (.invokevirtual 288, [52, 0, 1309, 12]) := by decide +kernel
theorem kc_57_9 : xe_code 57 9 = some (.istore_n 1, []) := by decide +kernel
theorem kc_57_10 : xe_code 57 10 = some (.bipush (-9), []) := by decide +kernel
theorem kc_57_12 : xe_code 57 12 = some (.istore_n 2, []) := by decide +kernel
theorem kc_57_13 : xe_code 57 13 = some (.iconst 0, []) := by decide +kernel
theorem kc_57_14 : xe_code 57 14 = some (.istore_n 3, []) := by decide +kernel
theorem kc_57_15 : xe_code 57 15 = some (.iconst 0, []) := by decide +kernel
theorem kc_57_16 : xe_code 57 16 = some (.istore 4, []) := by decide +kernel
theorem kc_57_18 : xe_code 57 18 = some (.iload 4, []) := by decide +kernel
theorem kc_57_20 : xe_code 57 20 = some (.aload_n 0, []) := by decide +kernel
theorem kc_57_21 : xe_code 57 21 = some (.getfield 279, [12, 45, 992]) := by decide +kernel
theorem kc_57_24 : xe_code 57 24 = some (.if_icmp .ge 119, [143]) := by decide +kernel
theorem kc_57_27 : xe_code 57 27 = some (.iload_n 1, []) := by decide +kernel
theorem kc_57_28 : xe_code 57 28 = some (.ifCond .le 115, [143]) := by decide +kernel
theorem kc_57_31 : xe_code 57 31 = some (.iconst 0, []) := by decide +kernel
theorem kc_57_32 : xe_code 57 32 = some (.istore 5, []) := by decide +kernel
theorem kc_57_34 : xe_code 57 34 = some (.iconst 0, []) := by decide +kernel
theorem kc_57_35 : xe_code 57 35 = some (.istore 6, []) := by decide +kernel
theorem kc_57_37 : xe_code 57 37 = some (.iload 6, []) := by decide +kernel
theorem kc_57_39 : xe_code 57 39 = some (.aload_n 0, []) := by decide +kernel
theorem kc_57_40 : xe_code 57 40 = some (.invokevirtual 262, [42, 0, 1270, 12]) := by decide +kernel
theorem kc_57_43 : xe_code 57 43 = some (.if_icmp .ge 40, [83]) := by decide +kernel
theorem kc_57_46 : xe_code 57 46 = some (.iload 5, []) := by decide +kernel
theorem kc_57_48 : xe_code 57 48 = some (.aload_n 0, []) := by decide +kernel
theorem kc_57_49 : xe_code 57 49 = some (.iload 6, []) := by decide +kernel
theorem kc_57_51 : xe_code 57 51 = some (.invokevirtual 285, [53, 1, 1313, 12]) := by decide +kernel
theorem kc_57_54 : xe_code 57 54 = some (.ifCond .eq 19, [73]) := by decide +kernel
theorem kc_57_57 : xe_code 57 57 = some (.aload_n 0, []) := by decide +kernel
theorem kc_57_58 : xe_code 57 58 = some (.iload 4, []) := by decide +kernel
theorem kc_57_60 : xe_code 57 60 = some (.iload 6, []) := by decide +kernel
theorem kc_57_62 : xe_code 57 62 = some (.invokevirtual 282, [54, 2, 1317, 12]) := by decide +kernel
theorem kc_57_65 : xe_code 57 65 = some (.iconst 1, []) := by decide +kernel
theorem kc_57_66 : xe_code 57 66 = some (.if_icmp .ne 7, [73]) := by decide +kernel
theorem kc_57_69 : xe_code 57 69 = some (.iconst 1, []) := by decide +kernel
theorem kc_57_70 : xe_code 57 70 = some (.goto 4, [74]) := by decide +kernel
theorem kc_57_73 : xe_code 57 73 = some (.iconst 0, []) := by decide +kernel
theorem kc_57_74 : xe_code 57 74 = some (.iadd, []) := by decide +kernel
theorem kc_57_75 : xe_code 57 75 = some (.istore 5, []) := by decide +kernel
theorem kc_57_77 : xe_code 57 77 = some (.iinc 6 1, []) := by decide +kernel
theorem kc_57_80 : xe_code 57 80 = some (.goto (-43), [37]) := by decide +kernel
theorem kc_57_83 : xe_code 57 83 = some (.aload_n 0, []) := by decide +kernel
theorem kc_57_84 : xe_code 57 84 = some (.getfield 127, [12, 47, 994]) := by decide +kernel
theorem kc_57_87 : xe_code 57 87 = some (.iload 4, []) := by decide +kernel
theorem kc_57_89 : xe_code 57 89 = some (.iaload, []) := by decide +kernel
theorem kc_57_90 : xe_code 57 90 = some (.iload 5, []) := by decide +kernel
theorem kc_57_92 : xe_code 57 92 = some (.iload_n 1, []) := by decide +kernel
theorem kc_57_93 : xe_code 57 93 = some (.iload 5, []) := by decide +kernel
theorem kc_57_95 : xe_code 57 95 = some (.isub, []) := by decide +kernel
theorem kc_57_96 : xe_code 57 96 = some (.if_icmp .le 8, [104]) := by decide +kernel
theorem kc_57_99 : xe_code 57 99 = some (.iload 5, []) := by decide +kernel
theorem kc_57_101 : xe_code 57 101 = some (.goto 7, [108]) := by decide +kernel
theorem kc_57_104 : xe_code 57 104 = some (.iload_n 1, []) := by decide +kernel
theorem kc_57_105 : xe_code 57 105 = some (.iload 5, []) := by decide +kernel
theorem kc_57_107 : xe_code 57 107 = some (.isub, []) := by decide +kernel
theorem kc_57_108 : xe_code 57 108 = some (.imul, []) := by decide +kernel
theorem kc_57_109 : xe_code 57 109 = some (.istore 6, []) := by decide +kernel
theorem kc_57_111 : xe_code 57 111 = some (.aload_n 0, []) := by decide +kernel
theorem kc_57_112 : xe_code 57 112 = some (.getfield 130, [12, 48, 995]) := by decide +kernel
theorem kc_57_115 : xe_code 57 115 = some (.iload 4, []) := by decide +kernel
theorem kc_57_117 : xe_code 57 117 = some (.iaload, []) := by decide +kernel
theorem kc_57_118 : xe_code 57 118 = some (.ifCond .ne 19, [137]) := by decide +kernel
theorem kc_57_121 : xe_code 57 121 = some (.iload_n 2, []) := by decide +kernel
theorem kc_57_122 : xe_code 57 122 = some (.ifCond .lt 9, [131]) := by decide +kernel
theorem kc_57_125 : xe_code 57 125 = some (.iload 6, []) := by decide +kernel
theorem kc_57_127 : xe_code 57 127 = some (.iload_n 3, []) := by decide +kernel
theorem kc_57_128 : xe_code 57 128 = some (.if_icmp .ge 9, [137]) := by decide +kernel
theorem kc_57_131 : xe_code 57 131 = some (.iload 4, []) := by decide +kernel
theorem kc_57_133 : xe_code 57 133 = some (.istore_n 2, []) := by decide +kernel
theorem kc_57_134 : xe_code 57 134 = some (.iload 6, []) := by decide +kernel
theorem kc_57_136 : xe_code 57 136 = some (.istore_n 3, []) := by decide +kernel
theorem kc_57_137 : xe_code 57 137 = some (.iinc 4 1, []) := by decide +kernel
theorem kc_57_140 : xe_code 57 140 = some (.goto (-122), [18]) := by decide +kernel
theorem kc_57_143 : xe_code 57 143 = some (.iload_n 2, []) := by decide +kernel
theorem kc_57_144 : xe_code 57 144 = some (.ireturn, []) := by decide +kernel
theorem kc_58_0 : xe_code 58 0 = some (.aload_n 0, []) := by decide +kernel
theorem kc_58_1 : xe_code 58 1 = some (.iconst 0, []) := by decide +kernel
theorem kc_58_2 : xe_code 58 2 = some (.putfield 169, [12, 0, 947]) := by decide +kernel
theorem kc_58_5 : xe_code 58 5 = some (.aload_n 0, []) := by decide +kernel
theorem kc_58_6 : xe_code 58 6 = some (.invokevirtual 270, [43, 0, 1274, 12]) := by decide +kernel
theorem kc_58_9 : xe_code 58 9 = some (.iconst 1, []) := by decide +kernel
theorem kc_58_10 : xe_code 58 10 = some (.istore_n 1, []) := by decide +kernel
theorem kc_58_11 : xe_code 58 11 = some (.iconst 0, []) := by decide +kernel
theorem kc_58_12 : xe_code 58 12 = some (.istore_n 2, []) := by decide +kernel
theorem kc_58_13 : xe_code 58 13 = some (.iconst 0, []) := by decide +kernel
theorem kc_58_14 : xe_code 58 14 = some (.istore_n 3, []) := by decide +kernel
theorem kc_58_15 : xe_code 58 15 = some (.iload_n 3, []) := by decide +kernel
theorem kc_58_16 : xe_code 58 16 = some (.aload_n 0, []) := by decide +kernel
theorem kc_58_17 : xe_code 58 17 = some (.getfield 279, [12, 45, 992]) := by decide +kernel
theorem kc_58_20 : xe_code 58 20 = some (.if_icmp .ge 24, [44]) := by decide +kernel
theorem kc_58_23 : xe_code 58 23 = some (.iload_n 2, []) := by decide +kernel
theorem kc_58_24 : xe_code 58 24 = some (.iload_n 1, []) := by decide +kernel
theorem kc_58_25 : xe_code 58 25 = some (.aload_n 0, []) := by decide +kernel
theorem kc_58_26 : xe_code 58 26 = some (.getfield 130, [12, 48, 995]) := by decide +kernel
theorem kc_58_29 : xe_code 58 29 = some (.iload_n 3, []) := by decide +kernel
theorem kc_58_30 : xe_code 58 30 = some (.iaload, []) := by decide +kernel
theorem kc_58_31 : xe_code 58 31 = some (.imul, []) := by decide +kernel
theorem kc_58_32 : xe_code 58 32 = some (.iadd, []) := by decide +kernel
theorem kc_58_33 : xe_code 58 33 = some (.istore_n 2, []) := by decide +kernel
theorem kc_58_34 : xe_code 58 34 = some (.iload_n 1, []) := by decide +kernel
theorem kc_58_35 : xe_code 58 35 = some (.iconst 3, []) := by decide +kernel
theorem kc_58_36 : xe_code 58 36 = some (.imul, []) := by decide +kernel
theorem kc_58_37 : xe_code 58 37 = some (.istore_n 1, []) := by decide +kernel
theorem kc_58_38 : xe_code 58 38 = some (.iinc 3 1, []) := by decide +kernel
theorem kc_58_41 : xe_code 58 41 = some (.goto (-26), [15]) := by decide +kernel
theorem kc_58_44 : xe_code 58 44 = some (.iload_n 1, []) := by decide +kernel
theorem kc_58_45 : xe_code 58 45 = some (.iconst 1, []) := by decide +kernel
theorem kc_58_46 : xe_code 58 46 = some (.isub, []) := by decide +kernel
theorem kc_58_47 : xe_code 58 47 = some (.istore_n 3, []) := by decide +kernel
theorem kc_58_48 : xe_code 58 48 = some (.iload_n 3, []) := by decide +kernel
theorem kc_58_49 : xe_code 58 49 = some (.iload_n 2, []) := by decide +kernel
theorem kc_58_50 : xe_code 58 50 = some (.if_icmp .lt 144, [194]) := by decide +kernel
theorem kc_58_53 : xe_code 58 53 = some (.iconst (-1), []) := by decide +kernel
theorem kc_58_54 : xe_code 58 54 = some (.istore 4, []) := by decide +kernel
theorem kc_58_56 : xe_code 58 56 = some (.iconst 1, []) := by decide +kernel
theorem kc_58_57 : xe_code 58 57 = some (.istore 5, []) := by decide +kernel
theorem kc_58_59 : xe_code 58 59 = some (.iconst 0, []) := by decide +kernel
theorem kc_58_60 : xe_code 58 60 = some (.istore 6, []) := by decide +kernel
theorem kc_58_62 : xe_code 58 62 = some (.iload 6, []) := by decide +kernel
theorem kc_58_64 : xe_code 58 64 = some (.aload_n 0, []) := by decide +kernel
theorem kc_58_65 : xe_code 58 65 = some (.getfield 279, [12, 45, 992]) := by decide +kernel
theorem kc_58_68 : xe_code 58 68 = some (.if_icmp .ge 103, [171]) := by decide +kernel
theorem kc_58_71 : xe_code 58 71 = some (.iload_n 3, []) := by decide +kernel
theorem kc_58_72 : xe_code 58 72 = some (.iload 5, []) := by decide +kernel
theorem kc_58_74 : xe_code 58 74 = some (.idiv, []) := by decide +kernel
theorem kc_58_75 : xe_code 58 75 = some (.iconst 3, []) := by decide +kernel
theorem kc_58_76 : xe_code 58 76 = some (.irem, []) := by decide +kernel
theorem kc_58_77 : xe_code 58 77 = some (.ifCond .ne 82, [159]) := by decide +kernel
theorem kc_58_80 : xe_code 58 80 = some (.aload_n 0, []) := by decide +kernel
theorem kc_58_81 : xe_code 58 81 = some (.iload_n 3, []) := by decide +kernel
theorem kc_58_82 : xe_code 58 82 = some (.iload 6, []) := by decide +kernel
theorem kc_58_84 : xe_code 58 84 = some (.invokevirtual 291, [59, 2, 1337, 12]) := by decide +kernel
theorem kc_58_87 : xe_code 58 87 = some (.ifCond .eq 72, [159]) := by decide +kernel
theorem kc_58_90 : xe_code 58 90 = some (.aload_n 0, []) := by decide +kernel
theorem kc_58_91 : xe_code 58 91 = some (.getfield 133, [12, 49, 996]) := by decide +kernel
theorem kc_58_94 : xe_code 58 94 = some (.iload_n 3, []) := by decide +kernel
theorem kc_58_95 : xe_code 58 95 = some (.iload 5, []) := by decide +kernel
theorem kc_58_97 : xe_code 58 97 = some (.iadd, []) := by decide +kernel
theorem kc_58_98 : xe_code 58 98 = some (.iaload, []) := by decide +kernel
theorem kc_58_99 : xe_code 58 99 = some (.istore 7, []) := by decide +kernel
theorem kc_58_101 : xe_code 58 101 = some (.aload_n 0, []) := by decide +kernel
theorem kc_58_102 : xe_code 58 102 = some (.getfield 133, [12, 49, 996]) := by decide +kernel
theorem kc_58_105 : xe_code 58 105 = some (.iload_n 3, []) := by decide +kernel
theorem kc_58_106 : xe_code 58 106 = some (.iconst 2, []) := by decide +kernel
theorem kc_58_107 : xe_code 58 107 = some (.iload 5, []) := by decide +kernel
theorem kc_58_109 : xe_code 58 109 = some (.imul, []) := by decide +kernel
theorem kc_58_110 : xe_code 58 110 = some (.iadd, []) := by decide +kernel
theorem kc_58_111 : xe_code 58 111 = some (.iaload, []) := by decide +kernel
theorem kc_58_112 : xe_code 58 112 = some (.istore 8, []) := by decide +kernel
theorem kc_58_114 : xe_code 58 114 = some (.aload_n 0, []) := by decide +kernel
theorem kc_58_115 : xe_code 58 115 = some (.getfield 127, [12, 47, 994]) := by decide +kernel
theorem kc_58_118 : xe_code 58 118 = some (.iload 6, []) := by decide +kernel
theorem kc_58_120 : xe_code 58 120 = some (.iaload, []) := by decide +kernel
theorem kc_58_121 : xe_code 58 121 = some (.iload 7, []) := by decide +kernel
theorem kc_58_123 : xe_code 58 123 = some (.iload 8, []) := by decide +kernel
theorem kc_58_125 : xe_code 58 125 = some (.if_icmp .le 8, [133]) := by decide +kernel
theorem kc_58_128 : xe_code 58 128 = some (.iload 7, []) := by decide +kernel
theorem kc_58_130 : xe_code 58 130 = some (.goto 5, [135]) := by decide +kernel
theorem kc_58_133 : xe_code 58 133 = some (.iload 8, []) := by decide +kernel
theorem kc_58_135 : xe_code 58 135 = some (.iadd, []) := by decide +kernel
theorem kc_58_136 : xe_code 58 136 = some (.istore 9, []) := by decide +kernel
theorem kc_58_138 : xe_code 58 138 = some (.iload 4, []) := by decide +kernel
theorem kc_58_140 : xe_code 58 140 = some (.ifCond .lt 10, [150]) := by decide +kernel
theorem kc_58_143 : xe_code 58 143 = some (.iload 9, []) := by decide +kernel
theorem kc_58_145 : xe_code 58 145 = some (.iload 4, []) := by decide +kernel
theorem kc_58_147 : xe_code 58 147 = some (.if_icmp .ge 8, [155]) := by decide +kernel
theorem kc_58_150 : xe_code 58 150 = some (.iload 9, []) := by decide +kernel
theorem kc_58_152 : xe_code 58 152 = some (.goto 5, [157]) := by decide +kernel
theorem kc_58_155 : xe_code 58 155 = some (.iload 4, []) := by decide +kernel
theorem kc_58_157 : xe_code 58 157 = some (.istore 4, []) := by decide +kernel
theorem kc_58_159 : xe_code 58 159 = some (.iload 5, []) := by decide +kernel
theorem kc_58_161 : xe_code 58 161 = some (.iconst 3, []) := by decide +kernel
theorem kc_58_162 : xe_code 58 162 = some (.imul, []) := by decide +kernel
theorem kc_58_163 : xe_code 58 163 = some (.istore 5, []) := by decide +kernel
theorem kc_58_165 : xe_code 58 165 = some (.iinc 6 1, []) := by decide +kernel
theorem kc_58_168 : xe_code 58 168 = some (.goto (-106), [62]) := by decide +kernel
theorem kc_58_171 : xe_code 58 171 = some (.aload_n 0, []) := by decide +kernel
theorem kc_58_172 : xe_code 58 172 = some (.getfield 133, [12, 49, 996]) := by decide +kernel
theorem kc_58_175 : xe_code 58 175 = some (.iload_n 3, []) := by decide +kernel
theorem kc_58_176 : xe_code 58 176 = some (.iload 4, []) := by decide +kernel
theorem kc_58_178 : xe_code 58 178 = some (.ifCond .ge 7, [185]) := by decide +kernel
theorem kc_58_181 : xe_code 58 181 = some (.iconst 0, []) := by decide +kernel
theorem kc_58_182 : xe_code 58 182 = some (.goto 5, [187]) := by decide +kernel
theorem kc_58_185 : xe_code 58 185 = some (.iload 4, []) := by decide +kernel
theorem kc_58_187 : xe_code 58 187 = some (.iastore, []) := by decide +kernel
theorem kc_58_188 : xe_code 58 188 = some (.iinc 3 (-1), []) := by decide +kernel
theorem kc_58_191 : xe_code 58 191 = some (.goto (-143), [48]) := by decide +kernel
theorem kc_58_194 : xe_code 58 194 = some (.aload_n 0, []) := by decide +kernel
theorem kc_58_195 : xe_code 58 195 = some (.getfield 133, [12, 49, 996]) := by decide +kernel
theorem kc_58_198 : xe_code 58 198 = some (.iload_n 2, []) := by decide +kernel
theorem kc_58_199 : xe_code 58 199 = some (.iaload, []) := by decide +kernel
theorem kc_58_200 : xe_code 58 200 = some (.ireturn, []) := by decide +kernel
theorem kc_59_0 : xe_code 59 0 = some (.iconst 0, []) := by decide +kernel
theorem kc_59_1 : xe_code 59 1 = some (.istore_n 3, []) := by decide +kernel
theorem kc_59_2 : xe_code 59 2 = some (.iconst 0, []) := by decide +kernel
theorem kc_59_3 : xe_code 59 3 = some (.istore 4, []) := by decide +kernel
theorem kc_59_5 : xe_code 59 5 = some (.iconst 0, []) := by decide +kernel
theorem kc_59_6 : xe_code 59 6 = some (.istore 5, []) := by decide +kernel
theorem kc_59_8 : xe_code 59 8 = some (.iload 5, []) := by decide +kernel
theorem kc_59_10 : xe_code 59 10 = some (.aload_n 0, []) := by decide +kernel
theorem kc_59_11 : xe_code 59 11 = some (.invokevirtual 262, [42, 0, 1270, 12]) := by decide +kernel
theorem kc_59_14 : xe_code 59 14 = some (.if_icmp .ge 72, [86]) := by decide +kernel
theorem kc_59_17 : xe_code 59 17 = some (.iload_n 3, []) := by decide +kernel
theorem kc_59_18 : xe_code 59 18 = some (.ifCond .eq 8, [26]) := by decide +kernel
theorem kc_59_21 : xe_code 59 21 = some (.iload 4, []) := by decide +kernel
theorem kc_59_23 : xe_code 59 23 = some (.ifCond .ne 63, [86]) := by decide +kernel
theorem kc_59_26 : xe_code 59 26 = some (.aload_n 0, []) := by decide +kernel
theorem kc_59_27 : xe_code 59 27 = some (.iload 5, []) := by decide +kernel
theorem kc_59_29 : xe_code 59 29 = some (.iload_n 1, []) := by decide +kernel
theorem kc_59_30 : xe_code 59 30 = some (.invokevirtual 295, [60, 2, 1341, 12]) := by decide +kernel
theorem kc_59_33 : xe_code 59 33 = some (.ifCond .eq 47, [80]) := by decide +kernel
theorem kc_59_36 : xe_code 59 36 = some (.iload_n 3, []) := by decide +kernel
theorem kc_59_37 : xe_code 59 37 = some (.ifCond .ne 14, [51]) := by decide +kernel
theorem kc_59_40 : xe_code 59 40 = some (.aload_n 0, []) := by decide +kernel
theorem kc_59_41 : xe_code 59 41 = some (.iload_n 2, []) := by decide +kernel
theorem kc_59_42 : xe_code 59 42 = some (.iload 5, []) := by decide +kernel
theorem kc_59_44 : xe_code 59 44 = some (.invokevirtual 282, [54, 2, 1317, 12]) := by decide +kernel
theorem kc_59_47 : xe_code 59 47 = some (.iconst 1, []) := by decide +kernel
theorem kc_59_48 : xe_code 59 48 = some (.if_icmp .ne 7, [55]) := by decide +kernel
theorem kc_59_51 : xe_code 59 51 = some (.iconst 1, []) := by decide +kernel
theorem kc_59_52 : xe_code 59 52 = some (.goto 4, [56]) := by decide +kernel
theorem kc_59_55 : xe_code 59 55 = some (.iconst 0, []) := by decide +kernel
theorem kc_59_56 : xe_code 59 56 = some (.istore_n 3, []) := by decide +kernel
theorem kc_59_57 : xe_code 59 57 = some (.iload 4, []) := by decide +kernel
theorem kc_59_59 : xe_code 59 59 = some (.ifCond .ne 14, [73]) := by decide +kernel
theorem kc_59_62 : xe_code 59 62 = some (.aload_n 0, []) := by decide +kernel
theorem kc_59_63 : xe_code 59 63 = some (.iload_n 2, []) := by decide +kernel
theorem kc_59_64 : xe_code 59 64 = some (.iload 5, []) := by decide +kernel
theorem kc_59_66 : xe_code 59 66 = some (.invokevirtual 282, [54, 2, 1317, 12]) := by decide +kernel
theorem kc_59_69 : xe_code 59 69 = some (.iconst 2, []) := by decide +kernel
theorem kc_59_70 : xe_code 59 70 = some (.if_icmp .ne 7, [77]) := by decide +kernel
theorem kc_59_73 : xe_code 59 73 = some (.iconst 1, []) := by decide +kernel
theorem kc_59_74 : xe_code 59 74 = some (.goto 4, [78]) := by decide +kernel
theorem kc_59_77 : xe_code 59 77 = some (.iconst 0, []) := by decide +kernel
theorem kc_59_78 : xe_code 59 78 = some (.istore 4, []) := by decide +kernel
theorem kc_59_80 : xe_code 59 80 = some (.iinc 5 1, []) := by decide +kernel
theorem kc_59_83 : xe_code 59 83 = some (.goto (-75), [8]) := by decide +kernel
theorem kc_59_86 : xe_code 59 86 = some (.iload_n 3, []) := by decide +kernel
theorem kc_59_87 : xe_code 59 87 = some (.ifCond .eq 12, [99]) := by decide +kernel
theorem kc_59_90 : xe_code 59 90 = some (.iload 4, []) := by decide +kernel
theorem kc_59_92 : xe_code 59 92 = some (.ifCond .eq 7, [99]) := by decide +kernel
theorem kc_59_95 : xe_code 59 95 = some (.iconst 1, []) := by decide +kernel
theorem kc_59_96 : xe_code 59 96 = some (.goto 4, [100]) := by decide +kernel
theorem kc_59_99 : xe_code 59 99 = some (.iconst 0, []) := by decide +kernel
theorem kc_59_100 : xe_code 59 100 = some (.ireturn, []) := by decide +kernel
theorem kc_60_0 : xe_code 60 0 = some (.iload_n 2, []) := by decide +kernel
theorem kc_60_1 : xe_code 60 1 = some (.istore_n 3, []) := by decide +kernel
theorem kc_60_2 : xe_code 60 2 = some (.aload_n 0, []) := by decide +kernel
theorem kc_60_3 : xe_code 60 3 = some (.iload_n 1, []) := by decide +kernel
theorem kc_60_4 : xe_code 60 4 = some (.invokevirtual 285, [53, 1, 1313, 12]) := by decide +kernel
theorem kc_60_7 : xe_code 60 7 = some (.istore 4, []) := by decide +kernel
theorem kc_60_9 : xe_code 60 9 = some (.iconst 0, []) := by decide +kernel
theorem kc_60_10 : xe_code 60 10 = some (.istore 5, []) := by decide +kernel
theorem kc_60_12 : xe_code 60 12 = some (.iload 5, []) := by decide +kernel
theorem kc_60_14 : xe_code 60 14 = some (.aload_n 0, []) := by decide +kernel
theorem kc_60_15 : xe_code 60 15 = some (.getfield 279, [12, 45, 992]) := by decide +kernel
theorem kc_60_18 : xe_code 60 18 = some (.if_icmp .ge 44, [62]) := by decide +kernel
theorem kc_60_21 : xe_code 60 21 = some (.iload 4, []) := by decide +kernel
theorem kc_60_23 : xe_code 60 23 = some (.ifCond .eq 39, [62]) := by decide +kernel
theorem kc_60_26 : xe_code 60 26 = some (.iload_n 3, []) := by decide +kernel
theorem kc_60_27 : xe_code 60 27 = some (.iconst 3, []) := by decide +kernel
theorem kc_60_28 : xe_code 60 28 = some (.irem, []) := by decide +kernel
theorem kc_60_29 : xe_code 60 29 = some (.ifCond .eq 16, [45]) := by decide +kernel
theorem kc_60_32 : xe_code 60 32 = some (.iload_n 3, []) := by decide +kernel
theorem kc_60_33 : xe_code 60 33 = some (.iconst 3, []) := by decide +kernel
theorem kc_60_34 : xe_code 60 34 = some (.irem, []) := by decide +kernel
theorem kc_60_35 : xe_code 60 35 = some (.aload_n 0, []) := by decide +kernel
theorem kc_60_36 : xe_code 60 36 = some (.iload 5, []) := by decide +kernel
theorem kc_60_38 : xe_code 60 38 = some (.iload_n 1, []) := by decide +kernel
theorem kc_60_39 : xe_code 60 39 = some (.invokevirtual 282, [54, 2, 1317, 12]) := by decide +kernel
theorem kc_60_42 : xe_code 60 42 = some (.if_icmp .ne 7, [49]) := by decide +kernel
theorem kc_60_45 : xe_code 60 45 = some (.iconst 1, []) := by decide +kernel
theorem kc_60_46 : xe_code 60 46 = some (.goto 4, [50]) := by decide +kernel
theorem kc_60_49 : xe_code 60 49 = some (.iconst 0, []) := by decide +kernel
theorem kc_60_50 : xe_code 60 50 = some (.istore 4, []) := by decide +kernel
theorem kc_60_52 : xe_code 60 52 = some (.iload_n 3, []) := by decide +kernel
theorem kc_60_53 : xe_code 60 53 = some (.iconst 3, []) := by decide +kernel
theorem kc_60_54 : xe_code 60 54 = some (.idiv, []) := by decide +kernel
theorem kc_60_55 : xe_code 60 55 = some (.istore_n 3, []) := by decide +kernel
theorem kc_60_56 : xe_code 60 56 = some (.iinc 5 1, []) := by decide +kernel
theorem kc_60_59 : xe_code 60 59 = some (.goto (-47), [12]) := by decide +kernel
theorem kc_60_62 : xe_code 60 62 = some (.iload 4, []) := by decide +kernel
theorem kc_60_64 : xe_code 60 64 = some (.ireturn, []) := by decide +kernel
theorem kc_61_0 : xe_code 61 0 = some (.aload_n 0, []) := by decide +kernel
theorem kc_61_1 : xe_code 61 1 = some (.iconst 0, []) := by decide +kernel
theorem kc_61_2 : xe_code 61 2 = some (.putfield 169, [12, 0, 947]) := by decide +kernel
theorem kc_61_5 : xe_code 61 5 = some (.iload_n 1, []) := by decide +kernel
theorem kc_61_6 : xe_code 61 6 = some (.invokestatic 185, [10, 1, 1145, 12]) := by decide +kernel
theorem kc_61_9 : xe_code 61 9 = some (.ifCond .ne 9, [18]) := by decide +kernel
theorem kc_61_12 : xe_code 61 12 = some (.aload_n 0, []) := by decide +kernel
theorem kc_61_13 : xe_code 61 13 = some (.iconst (-1), []) := by decide +kernel
theorem kc_61_14 : xe_code 61 14 = some (.invokevirtual 188, [12, 1, 1151, 12]) := by decide +kernel
theorem kc_61_17 : xe_code 61 17 = some (.ireturn, []) := by decide +kernel
theorem kc_61_18 : xe_code 61 18 = some (.iload_n 2, []) := by decide +kernel
theorem kc_61_19 : xe_code 61 19 = some (.iconst 0, []) := by decide +kernel
theorem kc_61_20 : xe_code 61 20 = some (.iconst 1, []) := by decide +kernel
theorem kc_61_21 : xe_code 61 21 = some (.invokestatic 173, [11, 3, 1148, 12]) := by decide +kernel
theorem kc_61_24 : xe_code 61 24 = some (.ifCond .ne 10, [34]) := by decide +kernel
theorem kc_61_27 : xe_code 61 27 = some (.aload_n 0, []) := by decide +kernel
theorem kc_61_28 : xe_code 61 28 = some (.bipush (-2), []) := by decide +kernel
theorem kc_61_30 : xe_code 61 30 = some (.invokevirtual 188, [12, 1, 1151, 12]) := by decide +kernel
theorem kc_61_33 : xe_code 61 33 = some (.ireturn, []) := by decide +kernel
theorem kc_61_34 : xe_code 61 34 = some (.iconst 0, []) := by decide +kernel
theorem kc_61_35 : xe_code 61 35 = some (.istore 6, []) := by decide +kernel
theorem kc_61_37 : xe_code 61 37 = some (.iload 6, []) := by decide +kernel
theorem kc_61_39 : xe_code 61 39 = some (.aload_n 0, []) := by decide +kernel
theorem kc_61_40 : xe_code 61 40 = some (.getfield 249, [12, 34, 981]) := by decide +kernel
theorem kc_61_43 : xe_code 61 43 = some (.if_icmp .ge 51, [94]) := by decide +kernel
theorem kc_61_46 : xe_code 61 46 = some (.aload_n 0, []) := by decide +kernel
theorem kc_61_47 : xe_code 61 47 = some (.getfield 96, [12, 35, 982]) := by decide +kernel
theorem kc_61_50 : xe_code 61 50 = some (.iload 6, []) := by decide +kernel
theorem kc_61_52 : xe_code 61 52 = some (.iaload, []) := by decide +kernel
theorem kc_61_53 : xe_code 61 53 = some (.iload_n 1, []) := by decide +kernel
theorem kc_61_54 : xe_code 61 54 = some (.if_icmp .ne 34, [88]) := by decide +kernel
theorem kc_61_57 : xe_code 61 57 = some (.iload 4, []) := by decide +kernel
theorem kc_61_59 : xe_code 61 59 = some (.aload_n 0, []) := by decide +kernel
theorem kc_61_60 : xe_code 61 60 = some (.getfield 108, [12, 39, 986]) := by decide +kernel
theorem kc_61_63 : xe_code 61 63 = some (.iload 6, []) := by decide +kernel
theorem kc_61_65 : xe_code 61 65 = some (.iaload, []) := by decide +kernel
theorem kc_61_66 : xe_code 61 66 = some (.if_icmp .ge 22, [88]) := by decide +kernel
theorem kc_61_69 : xe_code 61 69 = some (.iload 5, []) := by decide +kernel
theorem kc_61_71 : xe_code 61 71 = some (.aload_n 0, []) := by decide +kernel
theorem kc_61_72 : xe_code 61 72 = some (.getfield 105, [12, 38, 985]) := by decide +kernel
theorem kc_61_75 : xe_code 61 75 = some (.iload 6, []) := by decide +kernel
theorem kc_61_77 : xe_code 61 77 = some (.iaload, []) := by decide +kernel
theorem kc_61_78 : xe_code 61 78 = some (.if_icmp .le 10, [88]) := by decide +kernel
theorem kc_61_81 : xe_code 61 81 = some (.aload_n 0, []) := by decide +kernel
theorem kc_61_82 : xe_code 61 82 = some (.bipush (-3), []) := by decide +kernel
theorem kc_61_84 : xe_code 61 84 = some (.invokevirtual 188, [12, 1, 1151, 12]) := by decide +kernel
theorem kc_61_87 : xe_code 61 87 = some (.ireturn, []) := by decide +kernel
theorem kc_61_88 : xe_code 61 88 = some (.iinc 6 1, []) := by decide +kernel
theorem kc_61_91 : xe_code 61 91 = some (.goto (-54), [37]) := by decide +kernel
theorem kc_61_94 : xe_code 61 94 = some (.iload_n 3, []) := by decide +kernel
theorem kc_61_95 : xe_code 61 95 = some (.ifCond .lt 19, [114]) := by decide +kernel
theorem kc_61_98 : xe_code 61 98 = some (.iload 4, []) := by decide +kernel
theorem kc_61_100 : xe_code 61 100 = some (.aload_n 0, []) := by decide +kernel
theorem kc_61_101 : xe_code 61 101 = some (.getfield 213, [12, 1, 948]) := by decide +kernel
theorem kc_61_104 : xe_code 61 104 = some (.if_icmp .lt 10, [114]) := by decide +kernel
theorem kc_61_107 : xe_code 61 107 = some (.iload 5, []) := by decide +kernel
theorem kc_61_109 : xe_code 61 109 = some (.iload 4, []) := by decide +kernel
theorem kc_61_111 : xe_code 61 111 = some (.if_icmp .gt 10, [121]) := by decide +kernel
theorem kc_61_114 : xe_code 61 114 = some (.aload_n 0, []) := by decide +kernel
theorem kc_61_115 : xe_code 61 115 = some (.bipush (-4), []) := by decide +kernel
theorem kc_61_117 : xe_code 61 117 = some (.invokevirtual 188, [12, 1, 1151, 12]) := by decide +kernel
theorem kc_61_120 : xe_code 61 120 = some (.ireturn, []) := by decide +kernel
theorem kc_61_121 : xe_code 61 121 = some (.iload 5, []) := by decide +kernel
theorem kc_61_123 : xe_code 61 123 = some (.sipush 600, []) := by decide +kernel
theorem kc_61_126 : xe_code 61 126 = some (.if_icmp .gt 18, [144]) := by decide +kernel
theorem kc_61_129 : xe_code 61 129 = some (.iload_n 3, []) := by decide +kernel
theorem kc_61_130 : xe_code 61 130 = some (.bipush 50, []) := by decide +kernel
theorem kc_61_132 : xe_code 61 132 = some (.if_icmp .gt 12, [144]) := by decide +kernel
theorem kc_61_135 : xe_code 61 135 = some (.aload_n 0, []) := by decide +kernel
theorem kc_61_136 : xe_code 61 136 = some (.getfield 249, [12, 34, 981]) := by decide +kernel
theorem kc_61_139 : xe_code 61 139 = some (.bipush 20, []) := by decide +kernel
theorem kc_61_141 : xe_code 61 141 = some (.if_icmp .ne 10, [151]) := by decide +kernel
theorem kc_61_144 : xe_code 61 144 = some (.aload_n 0, []) := by decide +kernel
theorem kc_61_145 : xe_code 61 145 = some (.bipush (-6), []) := by decide +kernel
theorem kc_61_147 : xe_code 61 147 = some (.invokevirtual 188, [12, 1, 1151, 12]) := by decide +kernel
theorem kc_61_150 : xe_code 61 150 = some (.ireturn, []) := by decide +kernel
theorem kc_61_151 : xe_code 61 151 = some (.aload_n 0, []) := by decide +kernel
theorem kc_61_152 : xe_code 61 152 = some (.getfield 96, [12, 35, 982]) := by decide +kernel
theorem kc_61_155 : xe_code 61 155 = some (.aload_n 0, []) := by decide +kernel
theorem kc_61_156 : xe_code 61 156 = some (.getfield 249, [12, 34, 981]) := by decide +kernel
theorem kc_61_159 : xe_code 61 159 = some (.iload_n 1, []) := by decide +kernel
theorem kc_61_160 : xe_code 61 160 = some (.iastore, []) := by decide +kernel
theorem kc_61_161 : xe_code 61 161 = some (.aload_n 0, []) := by decide +kernel
theorem kc_61_162 : xe_code 61 162 = some (.getfield 99, [12, 36, 983]) := by decide +kernel
theorem kc_61_165 : xe_code 61 165 = some (.aload_n 0, []) := by decide +kernel
theorem kc_61_166 : xe_code 61 166 = some (.getfield 249, [12, 34, 981]) := by decide +kernel
theorem kc_61_169 : xe_code 61 169 = some (.iload_n 2, []) := by decide +kernel
theorem kc_61_170 : xe_code 61 170 = some (.iastore, []) := by decide +kernel
theorem kc_61_171 : xe_code 61 171 = some (.aload_n 0, []) := by decide +kernel
theorem kc_61_172 : xe_code 61 172 = some (.getfield 102, [12, 37, 984]) := by decide +kernel
theorem kc_61_175 : xe_code 61 175 = some (.aload_n 0, []) := by decide +kernel
theorem kc_61_176 : xe_code 61 176 = some (.getfield 249, [12, 34, 981]) := by decide +kernel
theorem kc_61_179 : xe_code 61 179 = some (.iload_n 3, []) := by decide +kernel
theorem kc_61_180 : xe_code 61 180 = some (.iastore, []) := by decide +kernel
theorem kc_61_181 : xe_code 61 181 = some (.aload_n 0, []) := by decide +kernel
theorem kc_61_182 : xe_code 61 182 = some (.getfield 105, [12, 38, 985]) := by decide +kernel
theorem kc_61_185 : xe_code 61 185 = some (.aload_n 0, []) := by decide +kernel
theorem kc_61_186 : xe_code 61 186 = some (.getfield 249, [12, 34, 981]) := by decide +kernel
theorem kc_61_189 : xe_code 61 189 = some (.iload 4, []) := by decide +kernel
theorem kc_61_191 : xe_code 61 191 = some (.iastore, []) := by decide +kernel
theorem kc_61_192 : xe_code 61 192 = some (.aload_n 0, []) := by decide +kernel
theorem kc_61_193 : xe_code 61 193 = some (.getfield 108, [12, 39, 986]) := by decide +kernel
theorem kc_61_196 : xe_code 61 196 = some (.aload_n 0, []) := by decide +kernel
theorem kc_61_197 : xe_code 61 197 = some (.getfield 249, [12, 34, 981]) := by decide +kernel
theorem kc_61_200 : xe_code 61 200 = some (.iload 5, []) := by decide +kernel
theorem kc_61_202 : xe_code 61 202 = some (.iastore, []) := by decide +kernel
theorem kc_61_203 : xe_code 61 203 = some (.aload_n 0, []) := by decide +kernel
theorem kc_61_204 : xe_code 61 204 = some (.dup, []) := by decide +kernel
theorem kc_61_205 : xe_code 61 205 = some (.getfield 249, [12, 34, 981]) := by decide +kernel
theorem kc_61_208 : xe_code 61 208 = some (.iconst 1, []) := by decide +kernel
theorem kc_61_209 : xe_code 61 209 = some (.iadd, []) := by decide +kernel
theorem kc_61_210 : xe_code 61 210 = some (.putfield 249, [12, 34, 981]) := by decide +kernel
theorem kc_61_213 : xe_code 61 213 = some (.aload_n 0, []) := by decide +kernel
theorem kc_61_214 : xe_code 61 214 = some (.getfield 249, [12, 34, 981]) := by decide +kernel
theorem kc_61_217 : xe_code 61 217 = some (.iconst 1, []) := by decide +kernel
theorem kc_61_218 : xe_code 61 218 = some (.isub, []) := by decide +kernel
theorem kc_61_219 : xe_code 61 219 = some (.ireturn, []) := by decide +kernel
theorem kc_62_0 : xe_code 62 0 = some (.aload_n 0, []) := by decide +kernel
theorem kc_62_1 : xe_code 62 1 = some (.iconst 0, []) := by decide +kernel
theorem kc_62_2 : xe_code 62 2 = some (.putfield 169, [12, 0, 947]) := by decide +kernel
theorem kc_62_5 : xe_code 62 5 = some (.iload_n 1, []) := by decide +kernel
theorem kc_62_6 : xe_code 62 6 = some (.iconst 0, []) := by decide +kernel
theorem kc_62_7 : xe_code 62 7 = some (.aload_n 0, []) := by decide +kernel
theorem kc_62_8 : xe_code 62 8 = some (.getfield 249, [12, 34, 981]) := by decide +kernel
theorem kc_62_11 : xe_code 62 11 = some (.iconst 1, []) := by decide +kernel
theorem kc_62_12 : xe_code 62 12 = some (.isub, []) := by decide +kernel
theorem kc_62_13 : xe_code 62 13 = some (.invokestatic 173, [11, 3, 1148, 12]) := by decide +kernel
theorem kc_62_16 : xe_code 62 16 = some (.ifCond .ne 9, [25]) := by decide +kernel
theorem kc_62_19 : xe_code 62 19 = some (.aload_n 0, []) := by decide +kernel
theorem kc_62_20 : xe_code 62 20 = some (.iconst (-1), []) := by decide +kernel
theorem kc_62_21 : xe_code 62 21 = some (.invokevirtual 188, [12, 1, 1151, 12]) := by decide +kernel
theorem kc_62_24 : xe_code 62 24 = some (.ireturn, []) := by decide +kernel
theorem kc_62_25 : xe_code 62 25 = some (.iload_n 2, []) := by decide +kernel
theorem kc_62_26 : xe_code 62 26 = some (.iconst 0, []) := by decide +kernel
theorem kc_62_27 : xe_code 62 27 = some (.iconst 2, []) := by decide +kernel
theorem kc_62_28 : xe_code 62 28 = some (.invokestatic 173, [11, 3, 1148, 12]) := by decide +kernel
theorem kc_62_31 : xe_code 62 31 = some (.ifCond .ne 10, [41]) := by decide +kernel
theorem kc_62_34 : xe_code 62 34 = some (.aload_n 0, []) := by decide +kernel
theorem kc_62_35 : xe_code 62 35 = some (.bipush (-2), []) := by decide +kernel
theorem kc_62_37 : xe_code 62 37 = some (.invokevirtual 188, [12, 1, 1151, 12]) := by decide +kernel
theorem kc_62_40 : xe_code 62 40 = some (.ireturn, []) := by decide +kernel
theorem kc_62_41 : xe_code 62 41 = some (.aload_n 0, []) := by decide +kernel
theorem kc_62_42 : xe_code 62 42 = some (.getfield 108, [12, 39, 986]) := by decide +kernel
theorem kc_62_45 : xe_code 62 45 = some (.iload_n 1, []) := by decide +kernel
theorem kc_62_46 : xe_code 62 46 = some (.iaload, []) := by decide +kernel
theorem kc_62_47 : xe_code 62 47 = some (.aload_n 0, []) := by decide +kernel
theorem kc_62_48 : xe_code 62 48 = some (.getfield 213, [12, 1, 948]) := by decide +kernel
theorem kc_62_51 : xe_code 62 51 = some (.if_icmp .le 10, [61]) := by decide +kernel
theorem kc_62_54 : xe_code 62 54 = some (.aload_n 0, []) := by decide +kernel
theorem kc_62_55 : xe_code 62 55 = some (.bipush (-3), []) := by decide +kernel
theorem kc_62_57 : xe_code 62 57 = some (.invokevirtual 188, [12, 1, 1151, 12]) := by decide +kernel
theorem kc_62_60 : xe_code 62 60 = some (.ireturn, []) := by decide +kernel
theorem kc_62_61 : xe_code 62 61 = some (.aload_n 0, []) := by decide +kernel
theorem kc_62_62 : xe_code 62 62 = some (.getfield 105, [12, 38, 985]) := by decide +kernel
theorem kc_62_65 : xe_code 62 65 = some (.iload_n 1, []) := by decide +kernel
theorem kc_62_66 : xe_code 62 66 = some (.iaload, []) := by decide +kernel
theorem kc_62_67 : xe_code 62 67 = some (.istore_n 3, []) := by decide +kernel
theorem kc_62_68 : xe_code 62 68 = some (.iconst 2, []) := by decide +kernel
theorem kc_62_69 : xe_code 62 69 = some (.iload_n 3, []) := by decide +kernel
theorem kc_62_70 : xe_code 62 70 = some (.imul, []) := by decide +kernel
theorem kc_62_71 : xe_code 62 71 = some (.aload_n 0, []) := by decide +kernel
theorem kc_62_72 : xe_code 62 72 = some (.getfield 108, [12, 39, 986]) := by decide +kernel
theorem kc_62_75 : xe_code 62 75 = some (.iload_n 1, []) := by decide +kernel
theorem kc_62_76 : xe_code 62 76 = some (.iaload, []) := by decide +kernel
theorem kc_62_77 : xe_code 62 77 = some (.isub, []) := by decide +kernel
theorem kc_62_78 : xe_code 62 78 = some (.istore 4, []) := by decide +kernel
theorem kc_62_80 : xe_code 62 80 = some (.aload_n 0, []) := by decide +kernel
theorem kc_62_81 : xe_code 62 81 = some (.aload_n 0, []) := by decide +kernel
theorem kc_62_82 : xe_code 62 82 = some (.getfield 96, [12, 35, 982]) := by decide +kernel
theorem kc_62_85 : xe_code 62 85 = some (.iload_n 1, []) := by decide +kernel
theorem kc_62_86 : xe_code 62 86 = some (.iaload, []) := by decide +kernel
theorem kc_62_87 : xe_code 62 87 = some (.iload_n 3, []) := by decide +kernel
theorem kc_62_88 : xe_code 62 88 = some (.aload_n 0, []) := by decide +kernel
theorem kc_62_89 : xe_code 62 89 = some (.getfield 108, [12, 39, 986]) := by decide +kernel
theorem kc_62_92 : xe_code 62 92 = some (.iload_n 1, []) := by decide +kernel
theorem kc_62_93 : xe_code 62 93 = some (.iaload, []) := by decide +kernel
theorem kc_62_94 : xe_code 62 94 = some (.invokevirtual 298, [63, 3, 1353, 12]) := by decide +kernel
theorem kc_62_97 : xe_code 62 97 = some (.istore 5, []) := by decide +kernel
theorem kc_62_99 : xe_code 62 99 = some (.aload_n 0, []) := by decide +kernel
theorem kc_62_100 : xe_code 62 100 = some (.aload_n 0, []) := by decide +kernel
theorem kc_62_101 : xe_code 62 101 = some (.getfield 96, [12, 35, 982]) := by decide +kernel
theorem kc_62_104 : xe_code 62 104 = some (.iload_n 1, []) := by decide +kernel
theorem kc_62_105 : xe_code 62 105 = some (.iaload, []) := by decide +kernel
theorem kc_62_106 : xe_code 62 106 = some (.iload 4, []) := by decide +kernel
theorem kc_62_108 : xe_code 62 108 = some (.ifCond .ge 7, [115]) := by decide +kernel
theorem kc_62_111 : xe_code 62 111 = some (.iconst 0, []) := by decide +kernel
theorem kc_62_112 : xe_code 62 112 = some (.goto 5, [117]) := by decide +kernel
theorem kc_62_115 : xe_code 62 115 = some (.iload 4, []) := by decide +kernel
theorem kc_62_117 : xe_code 62 117 = some (.iload_n 3, []) := by decide +kernel
theorem kc_62_118 : xe_code 62 118 = some (.invokevirtual 298, [63, 3, 1353, 12]) := by decide +kernel
theorem kc_62_121 : xe_code 62 121 = some (.istore 6, []) := by decide +kernel
theorem kc_62_123 : xe_code 62 123 = some (.iload_n 2, []) := by decide +kernel
theorem kc_62_124 : xe_code 62 124 = some (.ifCond .ne 8, [132]) := by decide +kernel
theorem kc_62_127 : xe_code 62 127 = some (.iload 5, []) := by decide +kernel
theorem kc_62_129 : xe_code 62 129 = some (.goto 25, [154]) := by decide +kernel
theorem kc_62_132 : xe_code 62 132 = some (.iload_n 2, []) := by decide +kernel
theorem kc_62_133 : xe_code 62 133 = some (.iconst 1, []) := by decide +kernel
theorem kc_62_134 : xe_code 62 134 = some (.if_icmp .ne 8, [142]) := by decide +kernel
theorem kc_62_137 : xe_code 62 137 = some (.iload 6, []) := by decide +kernel
theorem kc_62_139 : xe_code 62 139 = some (.goto 15, [154]) := by decide +kernel
theorem kc_62_142 : xe_code 62 142 = some (.iload 5, []) := by decide +kernel
theorem kc_62_144 : xe_code 62 144 = some (.iload 6, []) := by decide +kernel
theorem kc_62_146 : xe_code 62 146 = some (.if_icmp .ge 7, [153]) := by decide +kernel
theorem kc_62_149 : xe_code 62 149 = some (.iconst 1, []) := by decide +kernel
theorem kc_62_150 : xe_code 62 150 = some (.goto 4, [154]) := by decide +kernel
theorem kc_62_153 : xe_code 62 153 = some (.iconst 0, []) := by decide +kernel
theorem kc_62_154 : xe_code 62 154 = some (.ireturn, []) := by decide +kernel
theorem kc_63_0 : xe_code 63 0 = some (.lconst 0, []) := by decide +kernel
theorem kc_63_1 : xe_code 63 1 = some (.lstore 4, []) := by decide +kernel
theorem kc_63_3 : xe_code 63 3 = some (.iconst 0, []) := by decide +kernel
theorem kc_63_4 : xe_code 63 4 = some (.istore 6, []) := by decide +kernel
theorem kc_63_6 : xe_code 63 6 = some (.iload_n 2, []) := by decide +kernel
theorem kc_63_7 : xe_code 63 7 = some (.istore 7, []) := by decide +kernel
theorem kc_63_9 : xe_code 63 9 = some (.iload 7, []) := by decide +kernel
theorem kc_63_11 : xe_code 63 11 = some (.iload_n 3, []) := by decide +kernel
theorem kc_63_12 : xe_code 63 12 = some (.if_icmp .ge 58, [70]) := by decide +kernel
theorem kc_63_15 : xe_code 63 15 = some (.iconst 0, []) := by decide +kernel
theorem kc_63_16 : xe_code 63 16 = some (.istore 8, []) := by decide +kernel
theorem kc_63_18 : xe_code 63 18 = some (.iload 8, []) := by decide +kernel
theorem kc_63_20 : xe_code 63 20 = some (.bipush 12, []) := by decide +kernel
theorem kc_63_22 : xe_code 63 22 = some (.if_icmp .ge 42, [64]) := by decide +kernel
theorem kc_63_25 : xe_code 63 25 = some (.aload_n 0, []) := by decide +kernel
theorem kc_63_26 : xe_code 63 26 = some (.getfield 37, [12, 11, 958]) := by decide +kernel
theorem kc_63_29 : xe_code 63 29 = some (.iload 8, []) := by decide +kernel
theorem kc_63_31 : xe_code 63 31 = some (.iaload, []) := by decide +kernel
theorem kc_63_32 : xe_code 63 32 = some (.iload_n 1, []) := by decide +kernel
theorem kc_63_33 : xe_code 63 33 = some (.if_icmp .ne 25, [58]) := by decide +kernel
theorem kc_63_36 : xe_code 63 36 = some (.lload 4, []) := by decide +kernel
theorem kc_63_38 : xe_code 63 38 = some (.aload_n 0, []) := by decide +kernel
theorem kc_63_39 : xe_code 63 39 = some (.getfield 57, [12, 17, 964]) := by decide +kernel
theorem kc_63_42 : xe_code 63 42 = some (.bipush 12, []) := by decide +kernel
theorem kc_63_44 : xe_code 63 44 = some (.iload 7, []) := by decide +kernel
theorem kc_63_46 : xe_code 63 46 = some (.imul, []) := by decide +kernel
theorem kc_63_47 : xe_code 63 47 = some (.iload 8, []) := by decide +kernel
theorem kc_63_49 : xe_code 63 49 = some (.iadd, []) := by decide +kernel
theorem kc_63_50 : xe_code 63 50 = some (.iaload, []) := by decide +kernel
theorem kc_63_51 : xe_code 63 51 = some (.i2l, []) := by decide +kernel
theorem kc_63_52 : xe_code 63 52 = some (.ladd, []) := by decide +kernel
theorem kc_63_53 : xe_code 63 53 = some (.lstore 4, []) := by decide +kernel
theorem kc_63_55 : xe_code 63 55 = some (.iinc 6 1, []) := by decide +kernel
theorem kc_63_58 : xe_code 63 58 = some (.iinc 8 1, []) := by decide +kernel
theorem kc_63_61 : xe_code 63 61 = some (.goto (-43), [18]) := by decide +kernel
theorem kc_63_64 : xe_code 63 64 = some (.iinc 7 1, []) := by decide +kernel
theorem kc_63_67 : xe_code 63 67 = some (.goto (-58), [9]) := by decide +kernel
theorem kc_63_70 : xe_code 63 70 = some (.iload 6, []) := by decide +kernel
theorem kc_63_72 : xe_code 63 72 = some (.ifCond .ne 7, [79]) := by decide +kernel
theorem kc_63_75 : xe_code 63 75 = some (.iconst 0, []) := by decide +kernel
theorem kc_63_76 : xe_code 63 76 = some (.goto 10, [86]) := by decide +kernel
theorem kc_63_79 : xe_code 63 79 = some (.lload 4, []) := by decide +kernel
theorem kc_63_81 : xe_code 63 81 = some (.iload 6, []) := by decide +kernel
theorem kc_63_83 : xe_code 63 83 = some (.i2l, []) := by decide +kernel
theorem kc_63_84 : xe_code 63 84 = some (.ldiv, []) := by decide +kernel
theorem kc_63_85 : xe_code 63 85 = some (.l2i, []) := by decide +kernel
theorem kc_63_86 : xe_code 63 86 = some (.ireturn, []) := by decide +kernel
theorem kc_64_0 : xe_code 64 0 = some (.aload_n 0, []) := by decide +kernel
theorem kc_64_1 : xe_code 64 1 = some (.iconst 0, []) := by decide +kernel
theorem kc_64_2 : xe_code 64 2 = some (.putfield 169, [12, 0, 947]) := by decide +kernel
theorem kc_64_5 : xe_code 64 5 = some (.iload_n 1, []) := by decide +kernel
theorem kc_64_6 : xe_code 64 6 = some (.iconst 0, []) := by decide +kernel
theorem kc_64_7 : xe_code 64 7 = some (.bipush 23, []) := by decide +kernel
theorem kc_64_9 : xe_code 64 9 = some (.invokestatic 173, [11, 3, 1148, 12]) := by decide +kernel
theorem kc_64_12 : xe_code 64 12 = some (.ifCond .eq 21, [33]) := by decide +kernel
theorem kc_64_15 : xe_code 64 15 = some (.iload_n 2, []) := by decide +kernel
theorem kc_64_16 : xe_code 64 16 = some (.iconst 0, []) := by decide +kernel
theorem kc_64_17 : xe_code 64 17 = some (.iconst 3, []) := by decide +kernel
theorem kc_64_18 : xe_code 64 18 = some (.invokestatic 173, [11, 3, 1148, 12]) := by decide +kernel
theorem kc_64_21 : xe_code 64 21 = some (.ifCond .eq 12, [33]) := by decide +kernel
theorem kc_64_24 : xe_code 64 24 = some (.iload_n 3, []) := by decide +kernel
theorem kc_64_25 : xe_code 64 25 = some (.iconst 0, []) := by decide +kernel
theorem kc_64_26 : xe_code 64 26 = some (.iconst 5, []) := by decide +kernel
theorem kc_64_27 : xe_code 64 27 = some (.invokestatic 173, [11, 3, 1148, 12]) := by decide +kernel
theorem kc_64_30 : xe_code 64 30 = some (.ifCond .ne 9, [39]) := by decide +kernel
theorem kc_64_33 : xe_code 64 33 = some (.aload_n 0, []) := by decide +kernel
theorem kc_64_34 : xe_code 64 34 = some (.iconst (-1), []) := by decide +kernel
theorem kc_64_35 : xe_code 64 35 = some (.invokevirtual 188, [12, 1, 1151, 12]) := by decide +kernel
theorem kc_64_38 : xe_code 64 38 = some (.ireturn, []) := by decide +kernel
theorem kc_64_39 : xe_code 64 39 = some (.iload 4, []) := by decide +kernel
theorem kc_64_41 : xe_code 64 41 = some (.iconst 0, []) := by decide +kernel
theorem kc_64_42 : xe_code 64 42 = some (.iconst 2, []) := by decide +kernel
theorem kc_64_43 : xe_code 64 43 = some (.invokestatic 173, [11, 3, 1148, 12]) := by decide +kernel
theorem kc_64_46 : xe_code 64 46 = some (.ifCond .ne 10, [56]) := by decide +kernel
theorem kc_64_49 : xe_code 64 49 = some (.aload_n 0, []) := by decide +kernel
theorem kc_64_50 : xe_code 64 50 = some (.bipush (-2), []) := by decide +kernel
theorem kc_64_52 : xe_code 64 52 = some (.invokevirtual 188, [12, 1, 1151, 12]) := by decide +kernel
theorem kc_64_55 : xe_code 64 55 = some (.ireturn, []) := by decide +kernel
theorem kc_64_56 : xe_code 64 56 = some (.aload_n 0, []) := by decide +kernel
theorem kc_64_57 : xe_code 64 57 = some (.getfield 142, [12, 52, 999]) := by decide +kernel
theorem kc_64_60 : xe_code 64 60 = some (.iload_n 1, []) := by decide +kernel
theorem kc_64_61 : xe_code 64 61 = some (.iaload, []) := by decide +kernel
theorem kc_64_62 : xe_code 64 62 = some (.istore 5, []) := by decide +kernel
theorem kc_64_64 : xe_code 64 64 = some (.aload_n 0, []) := by decide +kernel
theorem kc_64_65 : xe_code 64 65 = some (.getfield 136, [12, 50, 997]) := by decide +kernel
theorem kc_64_68 : xe_code 64 68 = some (.iload_n 1, []) := by decide +kernel
theorem kc_64_69 : xe_code 64 69 = some (.iload_n 2, []) := by decide +kernel
theorem kc_64_70 : xe_code 64 70 = some (.iastore, []) := by decide +kernel
theorem kc_64_71 : xe_code 64 71 = some (.aload_n 0, []) := by decide +kernel
theorem kc_64_72 : xe_code 64 72 = some (.getfield 139, [12, 51, 998]) := by decide +kernel
theorem kc_64_75 : xe_code 64 75 = some (.iload_n 1, []) := by decide +kernel
theorem kc_64_76 : xe_code 64 76 = some (.iload_n 3, []) := by decide +kernel
theorem kc_64_77 : xe_code 64 77 = some (.iastore, []) := by decide +kernel
theorem kc_64_78 : xe_code 64 78 = some (.aload_n 0, []) := by decide +kernel
theorem kc_64_79 : xe_code 64 79 = some (.getfield 142, [12, 52, 999]) := by decide +kernel
theorem kc_64_82 : xe_code 64 82 = some (.iload_n 1, []) := by decide +kernel
theorem kc_64_83 : xe_code 64 83 = some (.iload 4, []) := by decide +kernel
theorem kc_64_85 : xe_code 64 85 = some (.iastore, []) := by decide +kernel
theorem kc_64_86 : xe_code 64 86 = some (.iload 5, []) := by decide +kernel
theorem kc_64_88 : xe_code 64 88 = some (.ireturn, []) := by decide +kernel
theorem kc_65_0 : xe_code 65 0 = some (.aload_n 0, []) := by decide +kernel
theorem kc_65_1 : xe_code 65 1 = some (.iconst 0, []) := by decide +kernel
theorem kc_65_2 : xe_code 65 2 = some (.putfield 169, [12, 0, 947]) := by decide +kernel
theorem kc_65_5 : xe_code 65 5 = some (.aload_n 0, []) := by decide +kernel
theorem kc_65_6 : xe_code 65 6 = some (.invokevirtual 308, [66, 0, 1365, 12]) := by decide +kernel
theorem kc_65_9 : xe_code 65 9 = some (.ireturn, []) := by decide +kernel
theorem kc_66_0 : xe_code 66 0 = some (.iconst 0, []) := by decide +kernel
theorem kc_66_1 : xe_code 66 1 = some (.istore_n 1, []) := by decide +kernel
theorem kc_66_2 : xe_code 66 2 = some (.iconst 0, []) := by decide +kernel
theorem kc_66_3 : xe_code 66 3 = some (.istore_n 2, []) := by decide +kernel
theorem kc_66_4 : xe_code 66 4 = some (.iload_n 2, []) := by decide +kernel
theorem kc_66_5 : xe_code 66 5 = some (.bipush 24, []) := by decide +kernel
theorem kc_66_7 : xe_code 66 7 = some (.if_icmp .ge 59, [66]) := by decide +kernel
theorem kc_66_10 : xe_code 66 10 = some (.iconst 0, []) := by decide +kernel
theorem kc_66_11 : xe_code 66 11 = some (.istore_n 3, []) := by decide +kernel
theorem kc_66_12 : xe_code 66 12 = some (.iload_n 3, []) := by decide +kernel
theorem kc_66_13 : xe_code 66 13 = some (.iload_n 2, []) := by decide +kernel
theorem kc_66_14 : xe_code 66 14 = some (.if_icmp .ge 46, [60]) := by decide +kernel
theorem kc_66_17 : xe_code 66 17 = some (.iload_n 1, []) := by decide +kernel
theorem kc_66_18 : xe_code 66 18 = some (.aload_n 0, []) := by decide +kernel
theorem kc_66_19 : xe_code 66 19 = some (.getfield 142, [12, 52, 999]) := by decide +kernel
theorem kc_66_22 : xe_code 66 22 = some (.iload_n 2, []) := by decide +kernel
theorem kc_66_23 : xe_code 66 23 = some (.iaload, []) := by decide +kernel
theorem kc_66_24 : xe_code 66 24 = some (.iconst 1, []) := by decide +kernel
theorem kc_66_25 : xe_code 66 25 = some (.if_icmp .ne 26, [51]) := by decide +kernel
theorem kc_66_28 : xe_code 66 28 = some (.aload_n 0, []) := by decide +kernel
theorem kc_66_29 : xe_code 66 29 = some (.getfield 142, [12, 52, 999]) := by decide +kernel
theorem kc_66_32 : xe_code 66 32 = some (.iload_n 3, []) := by decide +kernel
theorem kc_66_33 : xe_code 66 33 = some (.iaload, []) := by decide +kernel
theorem kc_66_34 : xe_code 66 34 = some (.iconst 1, []) := by decide +kernel
theorem kc_66_35 : xe_code 66 35 = some (.if_icmp .ne 16, [51]) := by decide +kernel
theorem kc_66_38 : xe_code 66 38 = some (.aload_n 0, []) := by decide +kernel
theorem kc_66_39 : xe_code 66 39 = some (.iload_n 2, []) := by decide +kernel
theorem kc_66_40 : xe_code 66 40 = some (.iload_n 3, []) := by decide +kernel
theorem kc_66_41 : xe_code 66 41 = some (.invokevirtual 305, [67, 2, 1369, 12]) := by decide +kernel
theorem kc_66_44 : xe_code 66 44 = some (.ifCond .eq 7, [51]) := by decide +kernel
theorem kc_66_47 : xe_code 66 47 = some (.iconst 1, []) := by decide +kernel
theorem kc_66_48 : xe_code 66 48 = some (.goto 4, [52]) := by decide +kernel
theorem kc_66_51 : xe_code 66 51 = some (.iconst 0, []) := by decide +kernel
theorem kc_66_52 : xe_code 66 52 = some (.iadd, []) := by decide +kernel
theorem kc_66_53 : xe_code 66 53 = some (.istore_n 1, []) := by decide +kernel
theorem kc_66_54 : xe_code 66 54 = some (.iinc 3 1, []) := by decide +kernel
theorem kc_66_57 : xe_code 66 57 = some (.goto (-45), [12]) := by decide +kernel
theorem kc_66_60 : xe_code 66 60 = some (.iinc 2 1, []) := by decide +kernel
theorem kc_66_63 : xe_code 66 63 = some (.goto (-59), [4]) := by decide +kernel
theorem kc_66_66 : xe_code 66 66 = some (.iload_n 1, []) := by decide +kernel
theorem kc_66_67 : xe_code 66 67 = some (.ireturn, []) := by decide +kernel
theorem kc_67_0 : xe_code 67 0 = some (.aload_n 0, []) := by decide +kernel
theorem kc_67_1 : xe_code 67 1 = some (.getfield 136, [12, 50, 997]) := by decide +kernel
theorem kc_67_4 : xe_code 67 4 = some (.iload_n 1, []) := by decide +kernel
theorem kc_67_5 : xe_code 67 5 = some (.iaload, []) := by decide +kernel
theorem kc_67_6 : xe_code 67 6 = some (.aload_n 0, []) := by decide +kernel
theorem kc_67_7 : xe_code 67 7 = some (.getfield 136, [12, 50, 997]) := by decide +kernel
theorem kc_67_10 : xe_code 67 10 = some (.iload_n 2, []) := by decide +kernel
theorem kc_67_11 : xe_code 67 11 = some (.iaload, []) := by decide +kernel
theorem kc_67_12 : xe_code 67 12 = some (.isub, []) := by decide +kernel
theorem kc_67_13 : xe_code 67 13 = some (.istore_n 3, []) := by decide +kernel
theorem kc_67_14 : xe_code 67 14 = some (.aload_n 0, []) := by decide +kernel
theorem kc_67_15 : xe_code 67 15 = some (.getfield 139, [12, 51, 998]) := by decide +kernel
theorem kc_67_18 : xe_code 67 18 = some (.iload_n 1, []) := by decide +kernel
theorem kc_67_19 : xe_code 67 19 = some (.iaload, []) := by decide +kernel
theorem kc_67_20 : xe_code 67 20 = some (.aload_n 0, []) := by decide +kernel
theorem kc_67_21 : xe_code 67 21 = some (.getfield 139, [12, 51, 998]) := by decide +kernel
theorem kc_67_24 : xe_code 67 24 = some (.iload_n 2, []) := by decide +kernel
theorem kc_67_25 : xe_code 67 25 = some (.iaload, []) := by decide +kernel
theorem kc_67_26 : xe_code 67 26 = some (.isub, []) := by decide +kernel
theorem kc_67_27 : xe_code 67 27 = some (.istore 4, []) := by decide +kernel
theorem kc_67_29 : xe_code 67 29 = some (.iload_n 3, []) := by decide +kernel
theorem kc_67_30 : xe_code 67 30 = some (.ifCond .ne 15, [45]) := by decide +kernel
theorem kc_67_33 : xe_code 67 33 = some (.iload 4, []) := by decide +kernel
theorem kc_67_35 : xe_code 67 35 = some (.iconst 1, []) := by decide +kernel
theorem kc_67_36 : xe_code 67 36 = some (.if_icmp .eq 24, [60]) := by decide +kernel
theorem kc_67_39 : xe_code 67 39 = some (.iload 4, []) := by decide +kernel
theorem kc_67_41 : xe_code 67 41 = some (.iconst (-1), []) := by decide +kernel
theorem kc_67_42 : xe_code 67 42 = some (.if_icmp .eq 18, [60]) := by decide +kernel
theorem kc_67_45 : xe_code 67 45 = some (.iload 4, []) := by decide +kernel
theorem kc_67_47 : xe_code 67 47 = some (.ifCond .ne 17, [64]) := by decide +kernel
theorem kc_67_50 : xe_code 67 50 = some (.iload_n 3, []) := by decide +kernel
theorem kc_67_51 : xe_code 67 51 = some (.iconst 1, []) := by decide +kernel
theorem kc_67_52 : xe_code 67 52 = some (.if_icmp .eq 8, [60]) := by decide +kernel
theorem kc_67_55 : xe_code 67 55 = some (.iload_n 3, []) := by decide +kernel
theorem kc_67_56 : xe_code 67 56 = some (.iconst (-1), []) := by decide +kernel
theorem kc_67_57 : xe_code 67 57 = some (.if_icmp .ne 7, [64]) := by decide +kernel
theorem kc_67_60 : xe_code 67 60 = some (.iconst 1, []) := by decide +kernel
theorem kc_67_61 : xe_code 67 61 = some (.goto 4, [65]) := by decide +kernel
theorem kc_67_64 : xe_code 67 64 = some (.iconst 0, []) := by decide +kernel
theorem kc_67_65 : xe_code 67 65 = some (.ireturn, []) := by decide +kernel
theorem kc_68_0 : xe_code 68 0 = some (.aload_n 0, []) := by decide +kernel
theorem kc_68_1 : xe_code 68 1 = some (.iconst 0, []) := by decide +kernel
theorem kc_68_2 : xe_code 68 2 = some (.putfield 169, [12, 0, 947]) := by decide +kernel
theorem kc_68_5 : xe_code 68 5 = some (.iload_n 1, []) := by decide +kernel
theorem kc_68_6 : xe_code 68 6 = some (.iconst 0, []) := by decide +kernel
theorem kc_68_7 : xe_code 68 7 = some (.iconst 1, []) := by decide +kernel
theorem kc_68_8 : xe_code 68 8 = some (.invokestatic 173, [11, 3, 1148, 12]) := by decide +kernel
theorem kc_68_11 : xe_code 68 11 = some (.ifCond .ne 10, [21]) := by decide +kernel
theorem kc_68_14 : xe_code 68 14 = some (.aload_n 0, []) := by decide +kernel
theorem kc_68_15 : xe_code 68 15 = some (.bipush (-2), []) := by decide +kernel
theorem kc_68_17 : xe_code 68 17 = some (.invokevirtual 188, [12, 1, 1151, 12]) := by decide +kernel
theorem kc_68_20 : xe_code 68 20 = some (.ireturn, []) := by decide +kernel
theorem kc_68_21 : xe_code 68 21 = some (.aload_n 0, []) := by decide +kernel
theorem kc_68_22 : xe_code 68 22 = some (.invokevirtual 311, [69, 0, 1377, 12]) := by decide +kernel
theorem kc_68_25 : xe_code 68 25 = some (.aload_n 0, []) := by decide +kernel
theorem kc_68_26 : xe_code 68 26 = some (.getfield 302, [12, 54, 1001]) := by decide +kernel
theorem kc_68_29 : xe_code 68 29 = some (.bipush 16, []) := by decide +kernel
theorem kc_68_31 : xe_code 68 31 = some (.if_icmp .le 10, [41]) := by decide +kernel
theorem kc_68_34 : xe_code 68 34 = some (.aload_n 0, []) := by decide +kernel
theorem kc_68_35 : xe_code 68 35 = some (.bipush (-6), []) := by decide +kernel
theorem kc_68_37 : xe_code 68 37 = some (.invokevirtual 188, [12, 1, 1151, 12]) := by decide +kernel
theorem kc_68_40 : xe_code 68 40 = some (.ireturn, []) := by decide +kernel
theorem kc_68_41 : xe_code 68 41 = some (.iconst 0, []) := by decide +kernel
theorem kc_68_42 : xe_code 68 42 = some (.istore_n 2, []) := by decide +kernel
theorem kc_68_43 : xe_code 68 43 = some (.iconst 0, []) := by decide +kernel
theorem kc_68_44 : xe_code 68 44 = some (.istore_n 3, []) := by decide +kernel
theorem kc_68_45 : xe_code 68 45 = some (.iload_n 3, []) := by decide +kernel
theorem kc_68_46 : xe_code 68 46 = some (.aload_n 0, []) := by decide +kernel
theorem kc_68_47 : xe_code 68 47 = some (.getfield 302, [12, 54, 1001]) := by decide +kernel
theorem kc_68_50 : xe_code 68 50 = some (.if_icmp .ge 82, [132]) := by decide +kernel
theorem kc_68_53 : xe_code 68 53 = some (.iload_n 2, []) := by decide +kernel
theorem kc_68_54 : xe_code 68 54 = some (.aload_n 0, []) := by decide +kernel
theorem kc_68_55 : xe_code 68 55 = some (.getfield 142, [12, 52, 999]) := by decide +kernel
theorem kc_68_58 : xe_code 68 58 = some (.aload_n 0, []) := by decide +kernel
theorem kc_68_59 : xe_code 68 59 = some (.getfield 145, [12, 53, 1000]) := by decide +kernel
theorem kc_68_62 : xe_code 68 62 = some (.iload_n 3, []) := by decide +kernel
theorem kc_68_63 : xe_code 68 63 = some (.iaload, []) := by decide +kernel
theorem kc_68_64 : xe_code 68 64 = some (.iaload, []) := by decide +kernel
theorem kc_68_65 : xe_code 68 65 = some (.iadd, []) := by decide +kernel
theorem kc_68_66 : xe_code 68 66 = some (.istore_n 2, []) := by decide +kernel
theorem kc_68_67 : xe_code 68 67 = some (.aload_n 0, []) := by decide +kernel
theorem kc_68_68 : xe_code 68 68 = some (.getfield 148, [12, 55, 1002]) := by decide +kernel
theorem kc_68_71 : xe_code 68 71 = some (.iload_n 3, []) := by decide +kernel
theorem kc_68_72 : xe_code 68 72 = some (.iconst 0, []) := by decide +kernel
theorem kc_68_73 : xe_code 68 73 = some (.iastore, []) := by decide +kernel
theorem kc_68_74 : xe_code 68 74 = some (.iconst 0, []) := by decide +kernel
theorem kc_68_75 : xe_code 68 75 = some (.istore 4, []) := by decide +kernel
theorem kc_68_77 : xe_code 68 77 = some (.iload 4, []) := by decide +kernel
theorem kc_68_79 : xe_code 68 79 = some (.iload_n 3, []) := by decide +kernel
theorem kc_68_80 : xe_code 68 80 = some (.if_icmp .ge 46, [126]) := by decide +kernel
theorem kc_68_83 : xe_code 68 83 = some (.aload_n 0, []) := by decide +kernel
theorem kc_68_84 : xe_code 68 84 = some (.getfield 148, [12, 55, 1002]) := by decide +kernel
theorem kc_68_87 : xe_code 68 87 = some (.iload_n 3, []) := by decide +kernel
theorem kc_68_88 : xe_code 68 88 = some (.dup2, []) := by decide +kernel
theorem kc_68_89 : xe_code 68 89 = some (.iaload, []) := by decide +kernel
theorem kc_68_90 : xe_code 68 90 = some (.aload_n 0, []) := by decide +kernel
theorem kc_68_91 : xe_code 68 91 = some (.aload_n 0, []) := by decide +kernel
theorem kc_68_92 : xe_code 68 92 = some (.getfield 145, [12, 53, 1000]) := by decide +kernel
theorem kc_68_95 : xe_code 68 95 = some (.iload_n 3, []) := by decide +kernel
theorem kc_68_96 : xe_code 68 96 = some (.iaload, []) := by decide +kernel
theorem kc_68_97 : xe_code 68 97 = some (.aload_n 0, []) := by decide +kernel
theorem kc_68_98 : xe_code 68 98 = some (.getfield 145, [12, 53, 1000]) := by decide +kernel
theorem kc_68_101 : xe_code 68 101 = some (.iload 4, []) := by decide +kernel
theorem kc_68_103 : xe_code 68 103 = some (.iaload, []) := by decide +kernel
theorem kc_68_104 : xe_code 68 104 = some (.invokevirtual 305, [67, 2, 1369, 12]) := by decide +kernel
theorem kc_68_107 : xe_code 68 107 = some (.ifCond .eq 10, [117]) := by decide +kernel
theorem kc_68_110 : xe_code 68 110 = some (.iconst 1, []) := by decide +kernel
theorem kc_68_111 : xe_code 68 111 = some (.iload 4, []) := by decide +kernel
theorem kc_68_113 : xe_code 68 113 = some (.ishl, []) := by decide +kernel
theorem kc_68_114 : xe_code 68 114 = some (.goto 4, [118]) := by decide +kernel
theorem kc_68_117 : xe_code 68 117 = some (.iconst 0, []) := by decide +kernel
theorem kc_68_118 : xe_code 68 118 = some (.ior, []) := by decide +kernel
theorem kc_68_119 : xe_code 68 119 = some (.iastore, []) := by decide +kernel
theorem kc_68_120 : xe_code 68 120 = some (.iinc 4 1, []) := by decide +kernel
theorem kc_68_123 : xe_code 68 123 = some (.goto (-46), [77]) := by decide +kernel
theorem kc_68_126 : xe_code 68 126 = some (.iinc 3 1, []) := by decide +kernel
theorem kc_68_129 : xe_code 68 129 = some (.goto (-84), [45]) := by decide +kernel
theorem kc_68_132 : xe_code 68 132 = some (.aload_n 0, []) := by decide +kernel
theorem kc_68_133 : xe_code 68 133 = some (.invokevirtual 308, [66, 0, 1365, 12]) := by decide +kernel
theorem kc_68_136 : xe_code 68 136 = some (.istore_n 3, []) := by decide +kernel
theorem kc_68_137 : xe_code 68 137 = some (.iconst 0, []) := by decide +kernel
theorem kc_68_138 : xe_code 68 138 = some (.istore 4, []) := by decide +kernel
theorem kc_68_140 : xe_code 68 140 = some (.iconst 0, []) := by decide +kernel
theorem kc_68_141 : xe_code 68 141 = some (.istore 5, []) := by decide +kernel
theorem kc_68_143 : xe_code 68 143 = some (.iconst 0, []) := by decide +kernel
theorem kc_68_144 : xe_code 68 144 = some (.istore 6, []) := by decide +kernel
theorem kc_68_146 : xe_code 68 146 = some (.iload 6, []) := by decide +kernel
theorem kc_68_148 : xe_code 68 148 = some (.iconst 1, []) := by decide +kernel
theorem kc_68_149 : xe_code 68 149 = some (.aload_n 0, []) := by decide +kernel
theorem kc_68_150 : xe_code 68 150 = some (.getfield 302, [12, 54, 1001]) := by decide +kernel
theorem kc_68_153 : xe_code 68 153 = some (.ishl, []) := by decide +kernel
theorem kc_68_154 : xe_code 68 154 = some (.if_icmp .ge 91, [245]) := by decide +kernel
theorem kc_68_157 : xe_code 68 157 = some (.iload 6, []) := by decide +kernel
theorem kc_68_159 : xe_code 68 159 = some (.invokestatic 273, [49, 1, 1298, 12]) := by decide +kernel
theorem kc_68_162 : xe_code 68 162 = some (.iload_n 2, []) := by decide +kernel
theorem kc_68_163 : xe_code 68 163 = some (.if_icmp .ne 76, [239]) := by decide +kernel
theorem kc_68_166 : xe_code 68 166 = some (.iconst 0, []) := by decide +kernel
theorem kc_68_167 : xe_code 68 167 = some (.istore 7, []) := by decide +kernel
theorem kc_68_169 : xe_code 68 169 = some (.iconst 0, []) := by decide +kernel
theorem kc_68_170 : xe_code 68 170 = some (.istore 8, []) := by decide +kernel
theorem kc_68_172 : xe_code 68 172 = some (.iload 8, []) := by decide +kernel
theorem kc_68_174 : xe_code 68 174 = some (.aload_n 0, []) := by decide +kernel
theorem kc_68_175 : xe_code 68 175 = some (.getfield 302, [12, 54, 1001]) := by decide +kernel
theorem kc_68_178 : xe_code 68 178 = some (.if_icmp .ge 42, [220]) := by decide +kernel
theorem kc_68_181 : xe_code 68 181 = some (.iload 7, []) := by decide +kernel
theorem kc_68_183 : xe_code 68 183 = some (.iload 6, []) := by decide +kernel
theorem kc_68_185 : xe_code 68 185 = some (.iload 8, []) := by decide +kernel
theorem kc_68_187 : xe_code 68 187 = some (.ishr, []) := by decide +kernel
theorem kc_68_188 : xe_code 68 188 = some (.iconst 1, []) := by decide +kernel
theorem kc_68_189 : xe_code 68 189 = some (.iand, []) := by decide +kernel
theorem kc_68_190 : xe_code 68 190 = some (.iconst 1, []) := by decide +kernel
theorem kc_68_191 : xe_code 68 191 = some (.if_icmp .ne 19, [210]) := by decide +kernel
theorem kc_68_194 : xe_code 68 194 = some (.aload_n 0, []) := by decide +kernel
theorem kc_68_195 : xe_code 68 195 = some (.getfield 148, [12, 55, 1002]) := by decide +kernel
theorem kc_68_198 : xe_code 68 198 = some (.iload 8, []) := by decide +kernel
theorem kc_68_200 : xe_code 68 200 = some (.iaload, []) := by decide +kernel
theorem kc_68_201 : xe_code 68 201 = some (.iload 6, []) := by decide +kernel
theorem kc_68_203 : xe_code 68 203 = some (.iand, []) := by decide +kernel
theorem kc_68_204 : xe_code 68 204 = some (.invokestatic 273, [49, 1, 1298, 12]) := by decide +kernel
theorem kc_68_207 : xe_code 68 207 = some (.goto 4, [211]) := by decide +kernel
theorem kc_68_210 : xe_code 68 210 = some (.iconst 0, []) := by decide +kernel
theorem kc_68_211 : xe_code 68 211 = some (.iadd, []) := by decide +kernel
theorem kc_68_212 : xe_code 68 212 = some (.istore 7, []) := by decide +kernel
theorem kc_68_214 : xe_code 68 214 = some (.iinc 8 1, []) := by decide +kernel
theorem kc_68_217 : xe_code 68 217 = some (.goto (-45), [172]) := by decide +kernel
theorem kc_68_220 : xe_code 68 220 = some (.iinc 5 1, []) := by decide +kernel
theorem kc_68_223 : xe_code 68 223 = some (.iload 4, []) := by decide +kernel
theorem kc_68_225 : xe_code 68 225 = some (.iload 7, []) := by decide +kernel
theorem kc_68_227 : xe_code 68 227 = some (.iload_n 3, []) := by decide +kernel
theorem kc_68_228 : xe_code 68 228 = some (.if_icmp .lt 7, [235]) := by decide +kernel
theorem kc_68_231 : xe_code 68 231 = some (.iconst 1, []) := by decide +kernel
theorem kc_68_232 : xe_code 68 232 = some (.goto 4, [236]) := by decide +kernel
theorem kc_68_235 : xe_code 68 235 = some (.iconst 0, []) := by decide +kernel
theorem kc_68_236 : xe_code 68 236 = some (.iadd, []) := by decide +kernel
theorem kc_68_237 : xe_code 68 237 = some (.istore 4, []) := by decide +kernel
theorem kc_68_239 : xe_code 68 239 = some (.iinc 6 1, []) := by decide +kernel
theorem kc_68_242 : xe_code 68 242 = some (.goto (-96), [146]) := by decide +kernel
theorem kc_68_245 : xe_code 68 245 = some (.iload_n 1, []) := by decide +kernel
theorem kc_68_246 : xe_code 68 246 = some (.ifCond .ne 8, [254]) := by decide +kernel
theorem kc_68_249 : xe_code 68 249 = some (.iload 4, []) := by decide +kernel
theorem kc_68_251 : xe_code 68 251 = some (.goto 5, [256]) := by decide +kernel
theorem kc_68_254 : xe_code 68 254 = some (.iload 5, []) := by decide +kernel
theorem kc_68_256 : xe_code 68 256 = some (.ireturn, []) := by decide +kernel
theorem kc_69_0 : xe_code 69 0 = some (.aload_n 0, []) := by decide +kernel
theorem kc_69_1 : xe_code 69 1 = some (.iconst 0, []) := by decide +kernel
theorem kc_69_2 : xe_code 69 2 = some (.putfield 302, [12, 54, 1001]) := by decide +kernel
theorem kc_69_5 : xe_code 69 5 = some (.iconst 0, []) := by decide +kernel
theorem kc_69_6 : xe_code 69 6 = some (.istore_n 1, []) := by decide +kernel
theorem kc_69_7 : xe_code 69 7 = some (.iload_n 1, []) := by decide +kernel
theorem kc_69_8 : xe_code 69 8 = some (.bipush 24, []) := by decide +kernel
theorem kc_69_10 : xe_code 69 10 = some (.if_icmp .ge 39, [49]) := by decide +kernel
theorem kc_69_13 : xe_code 69 13 = some (.aload_n 0, []) := by decide +kernel
theorem kc_69_14 : xe_code 69 14 = some (.getfield 142, [12, 52, 999]) := by decide +kernel
theorem kc_69_17 : xe_code 69 17 = some (.iload_n 1, []) := by decide +kernel
theorem kc_69_18 : xe_code 69 18 = some (.iaload, []) := by decide +kernel
theorem kc_69_19 : xe_code 69 19 = some (.iconst 2, []) := by decide +kernel
theorem kc_69_20 : xe_code 69 20 = some (.if_icmp .ge 23, [43]) := by decide +kernel
theorem kc_69_23 : xe_code 69 23 = some (.aload_n 0, []) := by decide +kernel
theorem kc_69_24 : xe_code 69 24 = some (.getfield 145, [12, 53, 1000]) := by decide +kernel
theorem kc_69_27 : xe_code 69 27 = some (.aload_n 0, []) := by decide +kernel
theorem kc_69_28 : xe_code 69 28 = some (.getfield 302, [12, 54, 1001]) := by decide +kernel
theorem kc_69_31 : xe_code 69 31 = some (.iload_n 1, []) := by decide +kernel
theorem kc_69_32 : xe_code 69 32 = some (.iastore, []) := by decide +kernel
theorem kc_69_33 : xe_code 69 33 = some (.aload_n 0, []) := by decide +kernel
theorem kc_69_34 : xe_code 69 34 = some (.dup, []) := by decide +kernel
theorem kc_69_35 : xe_code 69 35 = some (.getfield 302, [12, 54, 1001]) := by decide +kernel
theorem kc_69_38 : xe_code 69 38 = some (.iconst 1, []) := by decide +kernel
theorem kc_69_39 : xe_code 69 39 = some (.iadd, []) := by decide +kernel
theorem kc_69_40 : xe_code 69 40 = some (.putfield 302, [12, 54, 1001]) := by decide +kernel
theorem kc_69_43 : xe_code 69 43 = some (.iinc 1 1, []) := by decide +kernel
theorem kc_69_46 : xe_code 69 46 = some (.goto (-39), [7]) := by decide +kernel
theorem kc_69_49 : xe_code 69 49 = some (.return_, []) := by decide +kernel
theorem kc_70_0 : xe_code 70 0 = some (.aload_n 0, []) := by decide +kernel
theorem kc_70_1 : xe_code 70 1 = some (.iconst 0, []) := by decide +kernel
theorem kc_70_2 : xe_code 70 2 = some (.putfield 169, [12, 0, 947]) := by decide +kernel
theorem kc_70_5 : xe_code 70 5 = some (.iload_n 2, []) := by decide +kernel
theorem kc_70_6 : xe_code 70 6 = some (.iconst 0, []) := by decide +kernel
theorem kc_70_7 : xe_code 70 7 = some (.iconst 3, []) := by decide +kernel
theorem kc_70_8 : xe_code 70 8 = some (.invokestatic 173, [11, 3, 1148, 12]) := by decide +kernel
theorem kc_70_11 : xe_code 70 11 = some (.ifCond .eq 12, [23]) := by decide +kernel
theorem kc_70_14 : xe_code 70 14 = some (.iload_n 3, []) := by decide +kernel
theorem kc_70_15 : xe_code 70 15 = some (.iconst 0, []) := by decide +kernel
theorem kc_70_16 : xe_code 70 16 = some (.iconst 1, []) := by decide +kernel
theorem kc_70_17 : xe_code 70 17 = some (.invokestatic 173, [11, 3, 1148, 12]) := by decide +kernel
theorem kc_70_20 : xe_code 70 20 = some (.ifCond .ne 10, [30]) := by decide +kernel
theorem kc_70_23 : xe_code 70 23 = some (.aload_n 0, []) := by decide +kernel
theorem kc_70_24 : xe_code 70 24 = some (.bipush (-2), []) := by decide +kernel
theorem kc_70_26 : xe_code 70 26 = some (.invokevirtual 188, [12, 1, 1151, 12]) := by decide +kernel
theorem kc_70_29 : xe_code 70 29 = some (.ireturn, []) := by decide +kernel
theorem kc_70_30 : xe_code 70 30 = some (.iload_n 1, []) := by decide +kernel
theorem kc_70_31 : xe_code 70 31 = some (.aload_n 0, []) := by decide +kernel
theorem kc_70_32 : xe_code 70 32 = some (.getfield 213, [12, 1, 948]) := by decide +kernel
theorem kc_70_35 : xe_code 70 35 = some (.bipush 24, []) := by decide +kernel
theorem kc_70_37 : xe_code 70 37 = some (.idiv, []) := by decide +kernel
theorem kc_70_38 : xe_code 70 38 = some (.if_icmp .lt 8, [46]) := by decide +kernel
theorem kc_70_41 : xe_code 70 41 = some (.iload 4, []) := by decide +kernel
theorem kc_70_43 : xe_code 70 43 = some (.ifCond .ge 10, [53]) := by decide +kernel
theorem kc_70_46 : xe_code 70 46 = some (.aload_n 0, []) := by decide +kernel
theorem kc_70_47 : xe_code 70 47 = some (.bipush (-4), []) := by decide +kernel
theorem kc_70_49 : xe_code 70 49 = some (.invokevirtual 188, [12, 1, 1151, 12]) := by decide +kernel
theorem kc_70_52 : xe_code 70 52 = some (.ireturn, []) := by decide +kernel
theorem kc_70_53 : xe_code 70 53 = some (.iload_n 1, []) := by decide +kernel
theorem kc_70_54 : xe_code 70 54 = some (.bipush 25, []) := by decide +kernel
theorem kc_70_56 : xe_code 70 56 = some (.if_icmp .gt 19, [75]) := by decide +kernel
theorem kc_70_59 : xe_code 70 59 = some (.iload 4, []) := by decide +kernel
theorem kc_70_61 : xe_code 70 61 = some (.bipush 99, []) := by decide +kernel
theorem kc_70_63 : xe_code 70 63 = some (.if_icmp .gt 12, [75]) := by decide +kernel
theorem kc_70_66 : xe_code 70 66 = some (.aload_n 0, []) := by decide +kernel
theorem kc_70_67 : xe_code 70 67 = some (.getfield 314, [12, 56, 1003]) := by decide +kernel
theorem kc_70_70 : xe_code 70 70 = some (.bipush 12, []) := by decide +kernel
theorem kc_70_72 : xe_code 70 72 = some (.if_icmp .ne 10, [82]) := by decide +kernel
theorem kc_70_75 : xe_code 70 75 = some (.aload_n 0, []) := by decide +kernel
theorem kc_70_76 : xe_code 70 76 = some (.bipush (-6), []) := by decide +kernel
theorem kc_70_78 : xe_code 70 78 = some (.invokevirtual 188, [12, 1, 1151, 12]) := by decide +kernel
theorem kc_70_81 : xe_code 70 81 = some (.ireturn, []) := by decide +kernel
theorem kc_70_82 : xe_code 70 82 = some (.aload_n 0, []) := by decide +kernel
theorem kc_70_83 : xe_code 70 83 = some (.getfield 151, [12, 57, 1004]) := by decide +kernel
theorem kc_70_86 : xe_code 70 86 = some (.aload_n 0, []) := by decide +kernel
theorem kc_70_87 : xe_code 70 87 = some (.getfield 314, [12, 56, 1003]) := by decide +kernel
theorem kc_70_90 : xe_code 70 90 = some (.iload_n 1, []) := by decide +kernel
theorem kc_70_91 : xe_code 70 91 = some (.iastore, []) := by decide +kernel
theorem kc_70_92 : xe_code 70 92 = some (.aload_n 0, []) := by decide +kernel
theorem kc_70_93 : xe_code 70 93 = some (.getfield 154, [12, 58, 1005]) := by decide +kernel
theorem kc_70_96 : xe_code 70 96 = some (.aload_n 0, []) := by decide +kernel
theorem kc_70_97 : xe_code 70 97 = some (.getfield 314, [12, 56, 1003]) := by decide +kernel
theorem kc_70_100 : xe_code 70 100 = some (.iload_n 2, []) := by decide +kernel
theorem kc_70_101 : xe_code 70 101 = some (.iastore, []) := by decide +kernel
theorem kc_70_102 : xe_code 70 102 = some (.aload_n 0, []) := by decide +kernel
theorem kc_70_103 : xe_code 70 103 = some (.getfield 157, [12, 59, 1006]) := by decide +kernel
theorem kc_70_106 : xe_code 70 106 = some (.aload_n 0, []) := by decide +kernel
theorem kc_70_107 : xe_code 70 107 = some (.getfield 314, [12, 56, 1003]) := by decide +kernel
theorem kc_70_110 : xe_code 70 110 = some (.iload_n 3, []) := by decide +kernel
theorem kc_70_111 : xe_code 70 111 = some (.iastore, []) := by decide +kernel
theorem kc_70_112 : xe_code 70 112 = some (.aload_n 0, []) := by decide +kernel
theorem kc_70_113 : xe_code 70 113 = some (.getfield 160, [12, 60, 1007]) := by decide +kernel
theorem kc_70_116 : xe_code 70 116 = some (.aload_n 0, []) := by decide +kernel
theorem kc_70_117 : xe_code 70 117 = some (.getfield 314, [12, 56, 1003]) := by decide +kernel
theorem kc_70_120 : xe_code 70 120 = some (.iload 4, []) := by decide +kernel
theorem kc_70_122 : xe_code 70 122 = some (.iastore, []) := by decide +kernel
theorem kc_70_123 : xe_code 70 123 = some (.aload_n 0, []) := by decide +kernel
theorem kc_70_124 : xe_code 70 124 = some (.dup, []) := by decide +kernel
theorem kc_70_125 : xe_code 70 125 = some (.getfield 314, [12, 56, 1003]) := by decide +kernel
theorem kc_70_128 : xe_code 70 128 = some (.iconst 1, []) := by decide +kernel
theorem kc_70_129 : xe_code 70 129 = some (.iadd, []) := by decide +kernel
theorem kc_70_130 : xe_code 70 130 = some (.putfield 314, [12, 56, 1003]) := by decide +kernel
theorem kc_70_133 : xe_code 70 133 = some (.aload_n 0, []) := by decide +kernel
theorem kc_70_134 : xe_code 70 134 = some (.getfield 314, [12, 56, 1003]) := by decide +kernel
theorem kc_70_137 : xe_code 70 137 = some (.iconst 1, []) := by decide +kernel
theorem kc_70_138 : xe_code 70 138 = some (.isub, []) := by decide +kernel
theorem kc_70_139 : xe_code 70 139 = some (.ireturn, []) := by decide +kernel
theorem kc_71_0 : xe_code 71 0 = some (.aload_n 0, []) := by decide +kernel
theorem kc_71_1 : xe_code 71 1 = some (.iconst 0, []) := by decide +kernel
theorem kc_71_2 : xe_code 71 2 = some (.putfield 169, [12, 0, 947]) := by decide +kernel
theorem kc_71_5 : xe_code 71 5 = some (.aload_n 0, []) := by decide +kernel
theorem kc_71_6 : xe_code 71 6 = some (.getfield 317, [12, 61, 1008]) := by decide +kernel
theorem kc_71_9 : xe_code 71 9 = some (.istore_n 2, []) := by decide +kernel
theorem kc_71_10 : xe_code 71 10 = some (.aload_n 0, []) := by decide +kernel
theorem kc_71_11 : xe_code 71 11 = some (.iload_n 1, []) := by decide +kernel
theorem kc_71_12 : xe_code 71 12 = some (.putfield 317, [12, 61, 1008]) := by decide +kernel
theorem kc_71_15 : xe_code 71 15 = some (.iload_n 2, []) := by decide +kernel
theorem kc_71_16 : xe_code 71 16 = some (.iload_n 1, []) := by decide +kernel
theorem kc_71_17 : xe_code 71 17 = some (.if_icmp .ne 7, [24]) := by decide +kernel
theorem kc_71_20 : xe_code 71 20 = some (.iconst 0, []) := by decide +kernel
theorem kc_71_21 : xe_code 71 21 = some (.goto 4, [25]) := by decide +kernel
theorem kc_71_24 : xe_code 71 24 = some (.iconst 1, []) := by decide +kernel
theorem kc_71_25 : xe_code 71 25 = some (.ireturn, []) := by decide +kernel
theorem kc_72_0 : xe_code 72 0 = some (.aload_n 0, []) := by decide +kernel
theorem kc_72_1 : xe_code 72 1 = some (.iconst 0, []) := by decide +kernel
theorem kc_72_2 : xe_code 72 2 = some (.putfield 169, [12, 0, 947]) := by decide +kernel
theorem kc_72_5 : xe_code 72 5 = some (.iload_n 2, []) := by decide +kernel
theorem kc_72_6 : xe_code 72 6 = some (.iconst 0, []) := by decide +kernel
theorem kc_72_7 : xe_code 72 7 = some (.iconst 3, []) := by decide +kernel
theorem kc_72_8 : xe_code 72 8 = some (.invokestatic 173, [11, 3, 1148, 12]) := by decide +kernel
theorem kc_72_11 : xe_code 72 11 = some (.ifCond .ne 10, [21]) := by decide +kernel
theorem kc_72_14 : xe_code 72 14 = some (.aload_n 0, []) := by decide +kernel
theorem kc_72_15 : xe_code 72 15 = some (.bipush (-2), []) := by decide +kernel
theorem kc_72_17 : xe_code 72 17 = some (.invokevirtual 188, [12, 1, 1151, 12]) := by decide +kernel
theorem kc_72_20 : xe_code 72 20 = some (.ireturn, []) := by decide +kernel
theorem kc_72_21 : xe_code 72 21 = some (.aload_n 0, []) := by decide +kernel
theorem kc_72_22 : xe_code 72 22 = some (.getfield 163, [12, 62, 1009]) := by decide +kernel
theorem kc_72_25 : xe_code 72 25 = some (.iconst 2, []) := by decide +kernel
theorem kc_72_26 : xe_code 72 26 = some (.iload_n 2, []) := by decide +kernel
theorem kc_72_27 : xe_code 72 27 = some (.imul, []) := by decide +kernel
theorem kc_72_28 : xe_code 72 28 = some (.iload_n 1, []) := by decide +kernel
theorem kc_72_29 : xe_code 72 29 = some (.ifCond .eq 7, [36]) := by decide +kernel
