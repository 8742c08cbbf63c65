theorem kc_73_27 : xe_code 73 27 = some (.imul, []) := by decide +kernel
theorem kc_73_28 : xe_code 73 28 = some (.iload_n 1, []) := by decide +kernel
theorem kc_73_29 : xe_code 73 29 = some (.ifCond .eq 7, [36]) := by decide +kernel
theorem kc_73_32 : xe_code 73 32 = some (.iconst 1, []) := by decide +kernel
theorem kc_73_33 : xe_code 73 33 = some (.goto 4, [37]) := by decide +kernel
theorem kc_73_36 : xe_code 73 36 = some (.iconst 0, []) := by decide +kernel
theorem kc_73_37 : xe_code 73 37 = some (.iadd, []) := by decide +kernel
theorem kc_73_38 : xe_code 73 38 = some (.iload_n 3, []) := by decide +kernel
theorem kc_73_39 : xe_code 73 39 = some (.ifCond .eq 7, [46]) := by decide +kernel
theorem kc_73_42 : xe_code 73 42 = some (.iconst 1, []) := by decide +kernel
theorem kc_73_43 : xe_code 73 43 = some (.goto 4, [47]) := by decide +kernel
theorem kc_73_46 : xe_code 73 46 = some (.iconst 0, []) := by decide +kernel
theorem kc_73_47 : xe_code 73 47 = some (.iastore, []) := by decide +kernel
theorem kc_73_48 : xe_code 73 48 = some (.aload_n 0, []) := by decide +kernel
theorem kc_73_49 : xe_code 73 49 = some (.getfield 166, [12, 63, 1010]) := by decide +kernel
theorem kc_73_52 : xe_code 73 52 = some (.iload_n 2, []) := by decide +kernel
theorem kc_73_53 : xe_code 73 53 = some (.iload_n 3, []) := by decide +kernel
theorem kc_73_54 : xe_code 73 54 = some (.ifCond .eq 10, [64]) := by decide +kernel
theorem kc_73_57 : xe_code 73 57 = some (.aload_n 0, []) := by decide +kernel
theorem kc_73_58 : xe_code 73 58 = some (.getfield 213, [12, 1, 948]) := by decide +kernel
theorem kc_73_61 : xe_code 73 61 = some (.goto 9, [70]) := by decide +kernel
theorem kc_73_64 : xe_code 73 64 = some (.aload_n 0, []) := by decide +kernel
theorem kc_73_65 : xe_code 73 65 = some (.getfield 166, [12, 63, 1010]) := by decide +kernel
theorem kc_73_68 : xe_code 73 68 = some (.iload_n 2, []) := by decide +kernel
theorem kc_73_69 : xe_code 73 69 = some (.iaload, []) := by decide +kernel
theorem kc_73_70 : xe_code 73 70 = some (.iastore, []) := by decide +kernel
theorem kc_73_71 : xe_code 73 71 = some (.iconst 1, []) := by decide +kernel
theorem kc_73_72 : xe_code 73 72 = some (.ireturn, []) := by decide +kernel
theorem kc_74_0 : xe_code 74 0 = some (.aload_n 0, []) := by decide +kernel
theorem kc_74_1 : xe_code 74 1 = some (.iconst 0, []) := by decide +kernel
theorem kc_74_2 : xe_code 74 2 = some (.putfield 169, [12, 0, 947]) := by decide +kernel
theorem kc_74_5 : xe_code 74 5 = some (.iload_n 1, []) := by decide +kernel
theorem kc_74_6 : xe_code 74 6 = some (.iconst 0, []) := by decide +kernel
theorem kc_74_7 : xe_code 74 7 = some (.iconst 3, []) := by decide +kernel
theorem kc_74_8 : xe_code 74 8 = some (.invokestatic 173, [12, 3, 1152, 12]) := by decide +kernel
theorem kc_74_11 : xe_code 74 11 = some (.ifCond .eq 12, [23]) := by decide +kernel
theorem kc_74_14 : xe_code 74 14 = some (.iload_n 2, []) := by decide +kernel
theorem kc_74_15 : xe_code 74 15 = some (.iconst 0, []) := by decide +kernel
theorem kc_74_16 : xe_code 74 16 = some (.iconst 1, []) := by decide +kernel
theorem kc_74_17 : xe_code 74 17 = some (.invokestatic 173, [12, 3, 1152, 12]) := by decide +kernel
theorem kc_74_20 : xe_code 74 20 = some (.ifCond .ne 10, [30]) := by decide +kernel
theorem kc_74_23 : xe_code 74 23 = some (.aload_n 0, []) := by decide +kernel
theorem kc_74_24 : xe_code 74 24 = some (.bipush (-2), []) := by decide +kernel
theorem kc_74_26 : xe_code 74 26 = some (.invokevirtual 188, [13, 1, 1155, 12]) := by decide +kernel
theorem kc_74_29 : xe_code 74 29 = some (.ireturn, []) := by decide +kernel
theorem kc_74_30 : xe_code 74 30 = some (.aload_n 0, []) := by decide +kernel
theorem kc_74_31 : xe_code 74 31 = some (.invokevirtual 276, [49, 0, 1298, 12]) := by decide +kernel
theorem kc_74_34 : xe_code 74 34 = some (.istore_n 3, []) := by decide +kernel
theorem kc_74_35 : xe_code 74 35 = some (.iconst 0, []) := by decide +kernel
theorem kc_74_36 : xe_code 74 36 = some (.istore 4, []) := by decide +kernel
theorem kc_74_38 : xe_code 74 38 = some (.iconst 0, []) := by decide +kernel
theorem kc_74_39 : xe_code 74 39 = some (.istore 5, []) := by decide +kernel
theorem kc_74_41 : xe_code 74 41 = some (.iload 5, []) := by decide +kernel
theorem kc_74_43 : xe_code 74 43 = some (.bipush 6, []) := by decide +kernel
theorem kc_74_45 : xe_code 74 45 = some (.if_icmp .ge 51, [96]) := by decide +kernel
theorem kc_74_48 : xe_code 74 48 = some (.iload 5, []) := by decide +kernel
theorem kc_74_50 : xe_code 74 50 = some (.aload_n 0, []) := by decide +kernel
theorem kc_74_51 : xe_code 74 51 = some (.getfield 225, [12, 23, 970]) := by decide +kernel
theorem kc_74_54 : xe_code 74 54 = some (.if_icmp .ge 42, [96]) := by decide +kernel
theorem kc_74_57 : xe_code 74 57 = some (.iload 4, []) := by decide +kernel
theorem kc_74_59 : xe_code 74 59 = some (.ifCond .ne 24, [83]) := by decide +kernel
theorem kc_74_62 : xe_code 74 62 = some (.iload_n 3, []) := by decide +kernel
theorem kc_74_63 : xe_code 74 63 = some (.iload 5, []) := by decide +kernel
theorem kc_74_65 : xe_code 74 65 = some (.ishr, []) := by decide +kernel
theorem kc_74_66 : xe_code 74 66 = some (.iconst 1, []) := by decide +kernel
theorem kc_74_67 : xe_code 74 67 = some (.iand, []) := by decide +kernel
theorem kc_74_68 : xe_code 74 68 = some (.iconst 1, []) := by decide +kernel
theorem kc_74_69 : xe_code 74 69 = some (.if_icmp .ne 18, [87]) := by decide +kernel
theorem kc_74_72 : xe_code 74 72 = some (.aload_n 0, []) := by decide +kernel
theorem kc_74_73 : xe_code 74 73 = some (.getfield 72, [12, 24, 971]) := by decide +kernel
theorem kc_74_76 : xe_code 74 76 = some (.iload 5, []) := by decide +kernel
theorem kc_74_78 : xe_code 74 78 = some (.iaload, []) := by decide +kernel
theorem kc_74_79 : xe_code 74 79 = some (.iload_n 1, []) := by decide +kernel
theorem kc_74_80 : xe_code 74 80 = some (.if_icmp .ne 7, [87]) := by decide +kernel
theorem kc_74_83 : xe_code 74 83 = some (.iconst 1, []) := by decide +kernel
theorem kc_74_84 : xe_code 74 84 = some (.goto 4, [88]) := by decide +kernel
theorem kc_74_87 : xe_code 74 87 = some (.iconst 0, []) := by decide +kernel
theorem kc_74_88 : xe_code 74 88 = some (.istore 4, []) := by decide +kernel
theorem kc_74_90 : xe_code 74 90 = some (.iinc 5 1, []) := by decide +kernel
theorem kc_74_93 : xe_code 74 93 = some (.goto (-52), [41]) := by decide +kernel
theorem kc_74_96 : xe_code 74 96 = some (.aload_n 0, []) := by decide +kernel
theorem kc_74_97 : xe_code 74 97 = some (.getfield 166, [12, 63, 1010]) := by decide +kernel
theorem kc_74_100 : xe_code 74 100 = some (.iload_n 1, []) := by decide +kernel
theorem kc_74_101 : xe_code 74 101 = some (.iaload, []) := by decide +kernel
theorem kc_74_102 : xe_code 74 102 = some (.ifCond .ge 10, [112]) := by decide +kernel
theorem kc_74_105 : xe_code 74 105 = some (.aload_n 0, []) := by decide +kernel
theorem kc_74_106 : xe_code 74 106 = some (.getfield 213, [12, 1, 948]) := by decide +kernel
theorem kc_74_109 : xe_code 74 109 = some (.goto 9, [118]) := by decide +kernel
theorem kc_74_112 : xe_code 74 112 = some (.aload_n 0, []) := by decide +kernel
theorem kc_74_113 : xe_code 74 113 = some (.getfield 166, [12, 63, 1010]) := by decide +kernel
theorem kc_74_116 : xe_code 74 116 = some (.iload_n 1, []) := by decide +kernel
theorem kc_74_117 : xe_code 74 117 = some (.iaload, []) := by decide +kernel
theorem kc_74_118 : xe_code 74 118 = some (.bipush 24, []) := by decide +kernel
theorem kc_74_120 : xe_code 74 120 = some (.idiv, []) := by decide +kernel
theorem kc_74_121 : xe_code 74 121 = some (.istore 5, []) := by decide +kernel
theorem kc_74_123 : xe_code 74 123 = some (.iconst (-1), []) := by decide +kernel
theorem kc_74_124 : xe_code 74 124 = some (.istore 6, []) := by decide +kernel
theorem kc_74_126 : xe_code 74 126 = some (.iconst 0, []) := by decide +kernel
theorem kc_74_127 : xe_code 74 127 = some (.istore 7, []) := by decide +kernel
theorem kc_74_129 : xe_code 74 129 = some (.iload 7, []) := by decide +kernel
theorem kc_74_131 : xe_code 74 131 = some (.aload_n 0, []) := by decide +kernel
theorem kc_74_132 : xe_code 74 132 = some (.getfield 314, [12, 56, 1003]) := by decide +kernel
theorem kc_74_135 : xe_code 74 135 = some (.if_icmp .ge 63, [198]) := by decide +kernel
theorem kc_74_138 : xe_code 74 138 = some (.aload_n 0, []) := by decide +kernel
theorem kc_74_139 : xe_code 74 139 = some (.getfield 154, [12, 58, 1005]) := by decide +kernel
theorem kc_74_142 : xe_code 74 142 = some (.iload 7, []) := by decide +kernel
theorem kc_74_144 : xe_code 74 144 = some (.iaload, []) := by decide +kernel
theorem kc_74_145 : xe_code 74 145 = some (.iload_n 1, []) := by decide +kernel
theorem kc_74_146 : xe_code 74 146 = some (.if_icmp .ne 42, [188]) := by decide +kernel
theorem kc_74_149 : xe_code 74 149 = some (.aload_n 0, []) := by decide +kernel
theorem kc_74_150 : xe_code 74 150 = some (.getfield 151, [12, 57, 1004]) := by decide +kernel
theorem kc_74_153 : xe_code 74 153 = some (.iload 7, []) := by decide +kernel
theorem kc_74_155 : xe_code 74 155 = some (.iaload, []) := by decide +kernel
theorem kc_74_156 : xe_code 74 156 = some (.iload 5, []) := by decide +kernel
theorem kc_74_158 : xe_code 74 158 = some (.if_icmp .gt 30, [188]) := by decide +kernel
theorem kc_74_161 : xe_code 74 161 = some (.iload 6, []) := by decide +kernel
theorem kc_74_163 : xe_code 74 163 = some (.ifCond .lt 20, [183]) := by decide +kernel
theorem kc_74_166 : xe_code 74 166 = some (.aload_n 0, []) := by decide +kernel
theorem kc_74_167 : xe_code 74 167 = some (.getfield 151, [12, 57, 1004]) := by decide +kernel
theorem kc_74_170 : xe_code 74 170 = some (.iload 7, []) := by decide +kernel
theorem kc_74_172 : xe_code 74 172 = some (.iaload, []) := by decide +kernel
theorem kc_74_173 : xe_code 74 173 = some (.aload_n 0, []) := by decide +kernel
theorem kc_74_174 : xe_code 74 174 = some (.getfield 151, [12, 57, 1004]) := by decide +kernel
theorem kc_74_177 : xe_code 74 177 = some (.iload 6, []) := by decide +kernel
theorem kc_74_179 : xe_code 74 179 = some (.iaload, []) := by decide +kernel
theorem kc_74_180 : xe_code 74 180 = some (.if_icmp .lt 8, [188]) := by decide +kernel
theorem kc_74_183 : xe_code 74 183 = some (.iload 7, []) := by decide +kernel
theorem kc_74_185 : xe_code 74 185 = some (.goto 5, [190]) := by decide +kernel
theorem kc_74_188 : xe_code 74 188 = some (.iload 6, []) := by decide +kernel
theorem kc_74_190 : xe_code 74 190 = some (.istore 6, []) := by decide +kernel
theorem kc_74_192 : xe_code 74 192 = some (.iinc 7 1, []) := by decide +kernel
theorem kc_74_195 : xe_code 74 195 = some (.goto (-66), [129]) := by decide +kernel
theorem kc_74_198 : xe_code 74 198 = some (.iload 4, []) := by decide +kernel
theorem kc_74_200 : xe_code 74 200 = some (.ifCond .eq 8, [208]) := by decide +kernel
theorem kc_74_203 : xe_code 74 203 = some (.iload 6, []) := by decide +kernel
theorem kc_74_205 : xe_code 74 205 = some (.ifCond .ge 6, [211]) := by decide +kernel
theorem kc_74_208 : xe_code 74 208 = some (.bipush (-9), []) := by decide +kernel
theorem kc_74_210 : xe_code 74 210 = some (.ireturn, []) := by decide +kernel
theorem kc_74_211 : xe_code 74 211 = some (.aload_n 0, []) := by decide +kernel
theorem kc_74_212 : xe_code 74 212 = some (.getfield 317, [12, 61, 1008]) := by decide +kernel
theorem kc_74_215 : xe_code 74 215 = some (.ifCond .eq 17, [232]) := by decide +kernel
theorem kc_74_218 : xe_code 74 218 = some (.aload_n 0, []) := by decide +kernel
theorem kc_74_219 : xe_code 74 219 = some (.getfield 160, [12, 60, 1007]) := by decide +kernel
theorem kc_74_222 : xe_code 74 222 = some (.iload 6, []) := by decide +kernel
theorem kc_74_224 : xe_code 74 224 = some (.iaload, []) := by decide +kernel
theorem kc_74_225 : xe_code 74 225 = some (.iconst 1, []) := by decide +kernel
theorem kc_74_226 : xe_code 74 226 = some (.iadd, []) := by decide +kernel
theorem kc_74_227 : xe_code 74 227 = some (.iconst 2, []) := by decide +kernel
theorem kc_74_228 : xe_code 74 228 = some (.idiv, []) := by decide +kernel
theorem kc_74_229 : xe_code 74 229 = some (.goto 10, [239]) := by decide +kernel
theorem kc_74_232 : xe_code 74 232 = some (.aload_n 0, []) := by decide +kernel
theorem kc_74_233 : xe_code 74 233 = some (.getfield 160, [12, 60, 1007]) := by decide +kernel
theorem kc_74_236 : xe_code 74 236 = some (.iload 6, []) := by decide +kernel
theorem kc_74_238 : xe_code 74 238 = some (.iaload, []) := by decide +kernel
theorem kc_74_239 : xe_code 74 239 = some (.istore 7, []) := by decide +kernel
theorem kc_74_241 : xe_code 74 241 = some (.iload_n 2, []) := by decide +kernel
theorem kc_74_242 : xe_code 74 242 = some (.ifCond .ne 11, [253]) := by decide +kernel
theorem kc_74_245 : xe_code 74 245 = some (.iload 5, []) := by decide +kernel
theorem kc_74_247 : xe_code 74 247 = some (.iload 7, []) := by decide +kernel
theorem kc_74_249 : xe_code 74 249 = some (.iadd, []) := by decide +kernel
theorem kc_74_250 : xe_code 74 250 = some (.goto 10, [260]) := by decide +kernel
theorem kc_74_253 : xe_code 74 253 = some (.aload_n 0, []) := by decide +kernel
theorem kc_74_254 : xe_code 74 254 = some (.getfield 157, [12, 59, 1006]) := by decide +kernel
theorem kc_74_257 : xe_code 74 257 = some (.iload 6, []) := by decide +kernel
theorem kc_74_259 : xe_code 74 259 = some (.iaload, []) := by decide +kernel
theorem kc_74_260 : xe_code 74 260 = some (.ireturn, []) := by decide +kernel
theorem kc_75_0 : xe_code 75 0 = some (.aload_n 0, []) := by decide +kernel
theorem kc_75_1 : xe_code 75 1 = some (.iconst 0, []) := by decide +kernel
theorem kc_75_2 : xe_code 75 2 = some (.putfield 169, [12, 0, 947]) := by decide +kernel
theorem kc_75_5 : xe_code 75 5 = some (.iload_n 1, []) := by decide +kernel
theorem kc_75_6 : xe_code 75 6 = some (.iconst 0, []) := by decide +kernel
theorem kc_75_7 : xe_code 75 7 = some (.iconst 3, []) := by decide +kernel
theorem kc_75_8 : xe_code 75 8 = some (.invokestatic 173, [12, 3, 1152, 12]) := by decide +kernel
theorem kc_75_11 : xe_code 75 11 = some (.ifCond .ne 10, [21]) := by decide +kernel
theorem kc_75_14 : xe_code 75 14 = some (.aload_n 0, []) := by decide +kernel
theorem kc_75_15 : xe_code 75 15 = some (.bipush (-2), []) := by decide +kernel
theorem kc_75_17 : xe_code 75 17 = some (.invokevirtual 188, [13, 1, 1155, 12]) := by decide +kernel
theorem kc_75_20 : xe_code 75 20 = some (.ireturn, []) := by decide +kernel
theorem kc_75_21 : xe_code 75 21 = some (.aload_n 0, []) := by decide +kernel
theorem kc_75_22 : xe_code 75 22 = some (.getfield 163, [12, 62, 1009]) := by decide +kernel
theorem kc_75_25 : xe_code 75 25 = some (.iconst 2, []) := by decide +kernel
theorem kc_75_26 : xe_code 75 26 = some (.iload_n 1, []) := by decide +kernel
theorem kc_75_27 : xe_code 75 27 = some (.imul, []) := by decide +kernel
theorem kc_75_28 : xe_code 75 28 = some (.iaload, []) := by decide +kernel
theorem kc_75_29 : xe_code 75 29 = some (.ifCond .lt 41, [70]) := by decide +kernel
theorem kc_75_32 : xe_code 75 32 = some (.aload_n 0, []) := by decide +kernel
theorem kc_75_33 : xe_code 75 33 = some (.getfield 163, [12, 62, 1009]) := by decide +kernel
theorem kc_75_36 : xe_code 75 36 = some (.iconst 2, []) := by decide +kernel
theorem kc_75_37 : xe_code 75 37 = some (.iload_n 1, []) := by decide +kernel
theorem kc_75_38 : xe_code 75 38 = some (.imul, []) := by decide +kernel
theorem kc_75_39 : xe_code 75 39 = some (.iconst 1, []) := by decide +kernel
theorem kc_75_40 : xe_code 75 40 = some (.iadd, []) := by decide +kernel
theorem kc_75_41 : xe_code 75 41 = some (.iaload, []) := by decide +kernel
theorem kc_75_42 : xe_code 75 42 = some (.ifCond .lt 28, [70]) := by decide +kernel
theorem kc_75_45 : xe_code 75 45 = some (.aload_n 0, []) := by decide +kernel
theorem kc_75_46 : xe_code 75 46 = some (.getfield 163, [12, 62, 1009]) := by decide +kernel
theorem kc_75_49 : xe_code 75 49 = some (.iconst 2, []) := by decide +kernel
theorem kc_75_50 : xe_code 75 50 = some (.iload_n 1, []) := by decide +kernel
theorem kc_75_51 : xe_code 75 51 = some (.imul, []) := by decide +kernel
theorem kc_75_52 : xe_code 75 52 = some (.iaload, []) := by decide +kernel
theorem kc_75_53 : xe_code 75 53 = some (.aload_n 0, []) := by decide +kernel
theorem kc_75_54 : xe_code 75 54 = some (.getfield 163, [12, 62, 1009]) := by decide +kernel
theorem kc_75_57 : xe_code 75 57 = some (.iconst 2, []) := by decide +kernel
theorem kc_75_58 : xe_code 75 58 = some (.iload_n 1, []) := by decide +kernel
theorem kc_75_59 : xe_code 75 59 = some (.imul, []) := by decide +kernel
theorem kc_75_60 : xe_code 75 60 = some (.iconst 1, []) := by decide +kernel
theorem kc_75_61 : xe_code 75 61 = some (.iadd, []) := by decide +kernel
theorem kc_75_62 : xe_code 75 62 = some (.iaload, []) := by decide +kernel
theorem kc_75_63 : xe_code 75 63 = some (.if_icmp .eq 7, [70]) := by decide +kernel
theorem kc_75_66 : xe_code 75 66 = some (.iconst 1, []) := by decide +kernel
theorem kc_75_67 : xe_code 75 67 = some (.goto 4, [71]) := by decide +kernel
theorem kc_75_70 : xe_code 75 70 = some (.iconst 0, []) := by decide +kernel
theorem kc_75_71 : xe_code 75 71 = some (.ireturn, []) := by decide +kernel
theorem kc_76_0 : xe_code 76 0 = some (.aload_n 0, []) := by decide +kernel
theorem kc_76_1 : xe_code 76 1 = some (.iconst 0, []) := by decide +kernel
theorem kc_76_2 : xe_code 76 2 = some (.putfield 169, [12, 0, 947]) := by decide +kernel
theorem kc_76_5 : xe_code 76 5 = some (.iconst 0, []) := by decide +kernel
theorem kc_76_6 : xe_code 76 6 = some (.istore_n 2, []) := by decide +kernel
theorem kc_76_7 : xe_code 76 7 = some (.iload_n 1, []) := by decide +kernel
theorem kc_76_8 : xe_code 76 8 = some (.tableswitch 198 0 9 #[56, 61, 94, 99, 104, 139, 144, 179, 184, 189], [206, 64, 69, 102, 107, 112, 147, 152, 187, 192, 197]) := by decide +kernel
theorem kc_76_64 : xe_code 76 64 = some (.aload_n 0, []) := by decide +kernel
theorem kc_76_65 : xe_code 76 65 = some (.getfield 213, [12, 1, 948]) := by decide +kernel
theorem kc_76_68 : xe_code 76 68 = some (.ireturn, []) := by decide +kernel
theorem kc_76_69 : xe_code 76 69 = some (.iconst 0, []) := by decide +kernel
theorem kc_76_70 : xe_code 76 70 = some (.istore_n 3, []) := by decide +kernel
theorem kc_76_71 : xe_code 76 71 = some (.iload_n 3, []) := by decide +kernel
theorem kc_76_72 : xe_code 76 72 = some (.bipush 12, []) := by decide +kernel
theorem kc_76_74 : xe_code 76 74 = some (.if_icmp .ge 26, [100]) := by decide +kernel
theorem kc_76_77 : xe_code 76 77 = some (.iload_n 2, []) := by decide +kernel
theorem kc_76_78 : xe_code 76 78 = some (.aload_n 0, []) := by decide +kernel
theorem kc_76_79 : xe_code 76 79 = some (.getfield 37, [12, 11, 958]) := by decide +kernel
theorem kc_76_82 : xe_code 76 82 = some (.iload_n 3, []) := by decide +kernel
theorem kc_76_83 : xe_code 76 83 = some (.iaload, []) := by decide +kernel
theorem kc_76_84 : xe_code 76 84 = some (.ifCond .lt 7, [91]) := by decide +kernel
theorem kc_76_87 : xe_code 76 87 = some (.iconst 1, []) := by decide +kernel
theorem kc_76_88 : xe_code 76 88 = some (.goto 4, [92]) := by decide +kernel
theorem kc_76_91 : xe_code 76 91 = some (.iconst 0, []) := by decide +kernel
theorem kc_76_92 : xe_code 76 92 = some (.iadd, []) := by decide +kernel
theorem kc_76_93 : xe_code 76 93 = some (.istore_n 2, []) := by decide +kernel
theorem kc_76_94 : xe_code 76 94 = some (.iinc 3 1, []) := by decide +kernel
theorem kc_76_97 : xe_code 76 97 = some (.goto (-26), [71]) := by decide +kernel
theorem kc_76_100 : xe_code 76 100 = some (.iload_n 2, []) := by decide +kernel
theorem kc_76_101 : xe_code 76 101 = some (.ireturn, []) := by decide +kernel
theorem kc_76_102 : xe_code 76 102 = some (.aload_n 0, []) := by decide +kernel
theorem kc_76_103 : xe_code 76 103 = some (.getfield 222, [12, 18, 965]) := by decide +kernel
theorem kc_76_106 : xe_code 76 106 = some (.ireturn, []) := by decide +kernel
theorem kc_76_107 : xe_code 76 107 = some (.aload_n 0, []) := by decide +kernel
theorem kc_76_108 : xe_code 76 108 = some (.getfield 225, [12, 23, 970]) := by decide +kernel
theorem kc_76_111 : xe_code 76 111 = some (.ireturn, []) := by decide +kernel
theorem kc_76_112 : xe_code 76 112 = some (.iconst 0, []) := by decide +kernel
theorem kc_76_113 : xe_code 76 113 = some (.istore_n 3, []) := by decide +kernel
theorem kc_76_114 : xe_code 76 114 = some (.iload_n 3, []) := by decide +kernel
theorem kc_76_115 : xe_code 76 115 = some (.aload_n 0, []) := by decide +kernel
theorem kc_76_116 : xe_code 76 116 = some (.getfield 225, [12, 23, 970]) := by decide +kernel
theorem kc_76_119 : xe_code 76 119 = some (.if_icmp .ge 26, [145]) := by decide +kernel
theorem kc_76_122 : xe_code 76 122 = some (.iload_n 2, []) := by decide +kernel
theorem kc_76_123 : xe_code 76 123 = some (.aload_n 0, []) := by decide +kernel
theorem kc_76_124 : xe_code 76 124 = some (.getfield 84, [12, 28, 975]) := by decide +kernel
theorem kc_76_127 : xe_code 76 127 = some (.iload_n 3, []) := by decide +kernel
theorem kc_76_128 : xe_code 76 128 = some (.baload, []) := by decide +kernel
theorem kc_76_129 : xe_code 76 129 = some (.ifCond .eq 7, [136]) := by decide +kernel
theorem kc_76_132 : xe_code 76 132 = some (.iconst 1, []) := by decide +kernel
theorem kc_76_133 : xe_code 76 133 = some (.goto 4, [137]) := by decide +kernel
theorem kc_76_136 : xe_code 76 136 = some (.iconst 0, []) := by decide +kernel
theorem kc_76_137 : xe_code 76 137 = some (.iadd, []) := by decide +kernel
theorem kc_76_138 : xe_code 76 138 = some (.istore_n 2, []) := by decide +kernel
theorem kc_76_139 : xe_code 76 139 = some (.iinc 3 1, []) := by decide +kernel
theorem kc_76_142 : xe_code 76 142 = some (.goto (-28), [114]) := by decide +kernel
theorem kc_76_145 : xe_code 76 145 = some (.iload_n 2, []) := by decide +kernel
theorem kc_76_146 : xe_code 76 146 = some (.ireturn, []) := by decide +kernel
theorem kc_76_147 : xe_code 76 147 = some (.aload_n 0, []) := by decide +kernel
theorem kc_76_148 : xe_code 76 148 = some (.getfield 279, [12, 45, 992]) := by decide +kernel
theorem kc_76_151 : xe_code 76 151 = some (.ireturn, []) := by decide +kernel
theorem kc_76_152 : xe_code 76 152 = some (.iconst 0, []) := by decide +kernel
theorem kc_76_153 : xe_code 76 153 = some (.istore_n 3, []) := by decide +kernel
theorem kc_76_154 : xe_code 76 154 = some (.iload_n 3, []) := by decide +kernel
theorem kc_76_155 : xe_code 76 155 = some (.aload_n 0, []) := by decide +kernel
theorem kc_76_156 : xe_code 76 156 = some (.getfield 279, [12, 45, 992]) := by decide +kernel
theorem kc_76_159 : xe_code 76 159 = some (.if_icmp .ge 26, [185]) := by decide +kernel
theorem kc_76_162 : xe_code 76 162 = some (.iload_n 2, []) := by decide +kernel
theorem kc_76_163 : xe_code 76 163 = some (.aload_n 0, []) := by decide +kernel
theorem kc_76_164 : xe_code 76 164 = some (.getfield 130, [12, 48, 995]) := by decide +kernel
theorem kc_76_167 : xe_code 76 167 = some (.iload_n 3, []) := by decide +kernel
theorem kc_76_168 : xe_code 76 168 = some (.iaload, []) := by decide +kernel
theorem kc_76_169 : xe_code 76 169 = some (.ifCond .le 7, [176]) := by decide +kernel
theorem kc_76_172 : xe_code 76 172 = some (.iconst 1, []) := by decide +kernel
theorem kc_76_173 : xe_code 76 173 = some (.goto 4, [177]) := by decide +kernel
theorem kc_76_176 : xe_code 76 176 = some (.iconst 0, []) := by decide +kernel
theorem kc_76_177 : xe_code 76 177 = some (.iadd, []) := by decide +kernel
theorem kc_76_178 : xe_code 76 178 = some (.istore_n 2, []) := by decide +kernel
theorem kc_76_179 : xe_code 76 179 = some (.iinc 3 1, []) := by decide +kernel
theorem kc_76_182 : xe_code 76 182 = some (.goto (-28), [154]) := by decide +kernel
theorem kc_76_185 : xe_code 76 185 = some (.iload_n 2, []) := by decide +kernel
theorem kc_76_186 : xe_code 76 186 = some (.ireturn, []) := by decide +kernel
theorem kc_76_187 : xe_code 76 187 = some (.aload_n 0, []) := by decide +kernel
theorem kc_76_188 : xe_code 76 188 = some (.getfield 249, [12, 34, 981]) := by decide +kernel
theorem kc_76_191 : xe_code 76 191 = some (.ireturn, []) := by decide +kernel
theorem kc_76_192 : xe_code 76 192 = some (.aload_n 0, []) := by decide +kernel
theorem kc_76_193 : xe_code 76 193 = some (.getfield 314, [12, 56, 1003]) := by decide +kernel
theorem kc_76_196 : xe_code 76 196 = some (.ireturn, []) := by decide +kernel
theorem kc_76_197 : xe_code 76 197 = some (.aload_n 0, []) := by decide +kernel
theorem kc_76_198 : xe_code 76 198 = some (.invokevirtual 311, [70, 0, 1381, 12]) := by decide +kernel
theorem kc_76_201 : xe_code 76 201 = some (.aload_n 0, []) := by decide +kernel
theorem kc_76_202 : xe_code 76 202 = some (.getfield 302, [12, 54, 1001]) := by decide +kernel
theorem kc_76_205 : xe_code 76 205 = some (.ireturn, []) := by decide +kernel
theorem kc_76_206 : xe_code 76 206 = some (.iload_n 1, []) := by decide +kernel
theorem kc_76_207 : xe_code 76 207 = some (.bipush 11, []) := by decide +kernel
theorem kc_76_209 : xe_code 76 209 = some (.bipush 16, []) := by decide +kernel
theorem kc_76_211 : xe_code 76 211 = some (.invokestatic 173, [12, 3, 1152, 12]) := by decide +kernel
theorem kc_76_214 : xe_code 76 214 = some (.ifCond .eq 15, [229]) := by decide +kernel
theorem kc_76_217 : xe_code 76 217 = some (.aload_n 0, []) := by decide +kernel
theorem kc_76_218 : xe_code 76 218 = some (.getfield 87, [12, 29, 976]) := by decide +kernel
theorem kc_76_221 : xe_code 76 221 = some (.iload_n 1, []) := by decide +kernel
theorem kc_76_222 : xe_code 76 222 = some (.bipush 10, []) := by decide +kernel
theorem kc_76_224 : xe_code 76 224 = some (.isub, []) := by decide +kernel
theorem kc_76_225 : xe_code 76 225 = some (.iaload, []) := by decide +kernel
theorem kc_76_226 : xe_code 76 226 = some (.goto 5, [231]) := by decide +kernel
theorem kc_76_229 : xe_code 76 229 = some (.bipush (-9), []) := by decide +kernel
theorem kc_76_231 : xe_code 76 231 = some (.ireturn, []) := by decide +kernel
theorem kc_77_0 : xe_code 77 0 = some (.aload_n 0, []) := by decide +kernel
theorem kc_77_1 : xe_code 77 1 = some (.invokespecial 1, [0, 0, 75, 0]) := by decide +kernel
theorem kc_77_4 : xe_code 77 4 = some (.aload_n 0, []) := by decide +kernel
theorem kc_77_5 : xe_code 77 5 = some (.new 7, [4, 78]) := by decide +kernel
theorem kc_77_8 : xe_code 77 8 = some (.dup, []) := by decide +kernel
theorem kc_77_9 : xe_code 77 9 = some (.invokespecial 9, [78, 0, 80, 4]) := by decide +kernel
theorem kc_77_12 : xe_code 77 12 = some (.putfield 10, [0, 0, 369]) := by decide +kernel
theorem kc_77_15 : xe_code 77 15 = some (.aload_n 0, []) := by decide +kernel
theorem kc_77_16 : xe_code 77 16 = some (.new 16, [9, 196]) := by decide +kernel
theorem kc_77_19 : xe_code 77 19 = some (.dup, []) := by decide +kernel
theorem kc_77_20 : xe_code 77 20 = some (.invokespecial 18, [83, 0, 198, 9]) := by decide +kernel
theorem kc_77_23 : xe_code 77 23 = some (.putfield 19, [0, 1, 370]) := by decide +kernel
theorem kc_77_26 : xe_code 77 26 = some (.aload_n 0, []) := by decide +kernel
theorem kc_77_27 : xe_code 77 27 = some (.new 23, [3, 224]) := by decide +kernel
theorem kc_77_30 : xe_code 77 30 = some (.dup, []) := by decide +kernel
theorem kc_77_31 : xe_code 77 31 = some (.aload_n 0, []) := by decide +kernel
theorem kc_77_32 : xe_code 77 32 = some (.getfield 10, [0, 0, 369]) := by decide +kernel
theorem kc_77_35 : xe_code 77 35 = some (.invokespecial 25, [84, 1, 226, 3]) := by decide +kernel
theorem kc_77_38 : xe_code 77 38 = some (.putfield 28, [0, 2, 371]) := by decide +kernel
theorem kc_77_41 : xe_code 77 41 = some (.aload_n 0, []) := by decide +kernel
theorem kc_77_42 : xe_code 77 42 = some (.new 32, [6, 262]) := by decide +kernel
theorem kc_77_45 : xe_code 77 45 = some (.dup, []) := by decide +kernel
theorem kc_77_46 : xe_code 77 46 = some (.invokespecial 34, [85, 0, 264, 6]) := by decide +kernel
theorem kc_77_49 : xe_code 77 49 = some (.putfield 35, [0, 3, 372]) := by decide +kernel
theorem kc_77_52 : xe_code 77 52 = some (.aload_n 0, []) := by decide +kernel
theorem kc_77_53 : xe_code 77 53 = some (.new 39, [2, 286]) := by decide +kernel
theorem kc_77_56 : xe_code 77 56 = some (.dup, []) := by decide +kernel
theorem kc_77_57 : xe_code 77 57 = some (.invokespecial 41, [86, 0, 288, 2]) := by decide +kernel
theorem kc_77_60 : xe_code 77 60 = some (.putfield 42, [0, 4, 373]) := by decide +kernel
theorem kc_77_63 : xe_code 77 63 = some (.aload_n 0, []) := by decide +kernel
theorem kc_77_64 : xe_code 77 64 = some (.new 46, [5, 306]) := by decide +kernel
theorem kc_77_67 : xe_code 77 67 = some (.dup, []) := by decide +kernel
theorem kc_77_68 : xe_code 77 68 = some (.invokespecial 48, [87, 0, 308, 5]) := by decide +kernel
theorem kc_77_71 : xe_code 77 71 = some (.putfield 49, [0, 5, 374]) := by decide +kernel
theorem kc_77_74 : xe_code 77 74 = some (.aload_n 0, []) := by decide +kernel
theorem kc_77_75 : xe_code 77 75 = some (.bipush 20, []) := by decide +kernel
theorem kc_77_77 : xe_code 77 77 = some (.anewarray 53, [6, 343]) := by decide +kernel
theorem kc_77_80 : xe_code 77 80 = some (.putfield 55, [0, 6, 375]) := by decide +kernel
theorem kc_77_83 : xe_code 77 83 = some (.aload_n 0, []) := by decide +kernel
theorem kc_77_84 : xe_code 77 84 = some (.bipush 7, []) := by decide +kernel
theorem kc_77_86 : xe_code 77 86 = some (.newarray .int, [0, 109]) := by decide +kernel
theorem kc_77_88 : xe_code 77 88 = some (.putfield 59, [0, 7, 376]) := by decide +kernel
theorem kc_77_91 : xe_code 77 91 = some (.iconst 0, []) := by decide +kernel
theorem kc_77_92 : xe_code 77 92 = some (.istore_n 1, []) := by decide +kernel
theorem kc_77_93 : xe_code 77 93 = some (.iload_n 1, []) := by decide +kernel
theorem kc_77_94 : xe_code 77 94 = some (.bipush 20, []) := by decide +kernel
theorem kc_77_96 : xe_code 77 96 = some (.if_icmp .ge 22, [118]) := by decide +kernel
theorem kc_77_99 : xe_code 77 99 = some (.aload_n 0, []) := by decide +kernel
theorem kc_77_100 : xe_code 77 100 = some (.getfield 55, [0, 6, 375]) := by decide +kernel
theorem kc_77_103 : xe_code 77 103 = some (.iload_n 1, []) := by decide +kernel
theorem kc_77_104 : xe_code 77 104 = some (.new 53, [10, 343]) := by decide +kernel
theorem kc_77_107 : xe_code 77 107 = some (.dup, []) := by decide +kernel
theorem kc_77_108 : xe_code 77 108 = some (.invokespecial 63, [88, 0, 346, 10]) := by decide +kernel
theorem kc_77_111 : xe_code 77 111 = some (.aastore, []) := by decide +kernel
theorem kc_77_112 : xe_code 77 112 = some (.iinc 1 1, []) := by decide +kernel
theorem kc_77_115 : xe_code 77 115 = some (.goto (-22), [93]) := by decide +kernel
theorem kc_77_118 : xe_code 77 118 = some (.aload_n 0, []) := by decide +kernel
theorem kc_77_119 : xe_code 77 119 = some (.getfield 19, [0, 1, 370]) := by decide +kernel
theorem kc_77_122 : xe_code 77 122 = some (.bipush 63, []) := by decide +kernel
theorem kc_77_124 : xe_code 77 124 = some (.putfield 64, [9, 3, 212]) := by decide +kernel
theorem kc_77_127 : xe_code 77 127 = some (.return_, []) := by decide +kernel
theorem kc_78_0 : xe_code 78 0 = some (.aload_n 0, []) := by decide +kernel
theorem kc_78_1 : xe_code 78 1 = some (.invokespecial 3, [0, 0, 83, 0]) := by decide +kernel
theorem kc_78_4 : xe_code 78 4 = some (.aload_n 0, []) := by decide +kernel
theorem kc_78_5 : xe_code 78 5 = some (.bipush 6, []) := by decide +kernel
theorem kc_78_7 : xe_code 78 7 = some (.anewarray 9, [3, 84]) := by decide +kernel
theorem kc_78_10 : xe_code 78 10 = some (.putfield 11, [4, 0, 170]) := by decide +kernel
theorem kc_78_13 : xe_code 78 13 = some (.aload_n 0, []) := by decide +kernel
theorem kc_78_14 : xe_code 78 14 = some (.bipush 12, []) := by decide +kernel
theorem kc_78_16 : xe_code 78 16 = some (.anewarray 17, [4, 86]) := by decide +kernel
theorem kc_78_19 : xe_code 78 19 = some (.putfield 19, [4, 1, 172]) := by decide +kernel
theorem kc_78_22 : xe_code 78 22 = some (.aload_n 0, []) := by decide +kernel
theorem kc_78_23 : xe_code 78 23 = some (.bipush 10, []) := by decide +kernel
theorem kc_78_25 : xe_code 78 25 = some (.anewarray 23, [5, 88]) := by decide +kernel
theorem kc_78_28 : xe_code 78 28 = some (.putfield 25, [4, 2, 174]) := by decide +kernel
theorem kc_78_31 : xe_code 78 31 = some (.aload_n 0, []) := by decide +kernel
theorem kc_78_32 : xe_code 78 32 = some (.new 29, [8, 90]) := by decide +kernel
theorem kc_78_35 : xe_code 78 35 = some (.dup, []) := by decide +kernel
theorem kc_78_36 : xe_code 78 36 = some (.iconst 5, []) := by decide +kernel
theorem kc_78_37 : xe_code 78 37 = some (.invokespecial 31, [79, 1, 92, 8]) := by decide +kernel
theorem kc_78_40 : xe_code 78 40 = some (.putfield 34, [4, 3, 175]) := by decide +kernel
theorem kc_78_43 : xe_code 78 43 = some (.aload_n 0, []) := by decide +kernel
theorem kc_78_44 : xe_code 78 44 = some (.new 29, [8, 90]) := by decide +kernel
theorem kc_78_47 : xe_code 78 47 = some (.dup, []) := by decide +kernel
theorem kc_78_48 : xe_code 78 48 = some (.iconst 0, []) := by decide +kernel
theorem kc_78_49 : xe_code 78 49 = some (.invokespecial 31, [79, 1, 92, 8]) := by decide +kernel
theorem kc_78_52 : xe_code 78 52 = some (.putfield 38, [4, 4, 176]) := by decide +kernel
theorem kc_78_55 : xe_code 78 55 = some (.aload_n 0, []) := by decide +kernel
theorem kc_78_56 : xe_code 78 56 = some (.iconst 4, []) := by decide +kernel
theorem kc_78_57 : xe_code 78 57 = some (.putfield 41, [4, 6, 179]) := by decide +kernel
theorem kc_78_60 : xe_code 78 60 = some (.iconst 0, []) := by decide +kernel
theorem kc_78_61 : xe_code 78 61 = some (.istore_n 1, []) := by decide +kernel
theorem kc_78_62 : xe_code 78 62 = some (.iload_n 1, []) := by decide +kernel
theorem kc_78_63 : xe_code 78 63 = some (.bipush 6, []) := by decide +kernel
theorem kc_78_65 : xe_code 78 65 = some (.if_icmp .ge 22, [87]) := by decide +kernel
theorem kc_78_68 : xe_code 78 68 = some (.aload_n 0, []) := by decide +kernel
theorem kc_78_69 : xe_code 78 69 = some (.getfield 11, [4, 0, 170]) := by decide +kernel
theorem kc_78_72 : xe_code 78 72 = some (.iload_n 1, []) := by decide +kernel
theorem kc_78_73 : xe_code 78 73 = some (.new 9, [7, 84]) := by decide +kernel
theorem kc_78_76 : xe_code 78 76 = some (.dup, []) := by decide +kernel
theorem kc_78_77 : xe_code 78 77 = some (.invokespecial 45, [80, 0, 111, 7]) := by decide +kernel
theorem kc_78_80 : xe_code 78 80 = some (.aastore, []) := by decide +kernel
theorem kc_78_81 : xe_code 78 81 = some (.iinc 1 1, []) := by decide +kernel
theorem kc_78_84 : xe_code 78 84 = some (.goto (-22), [62]) := by decide +kernel
theorem kc_78_87 : xe_code 78 87 = some (.iconst 0, []) := by decide +kernel
theorem kc_78_88 : xe_code 78 88 = some (.istore_n 1, []) := by decide +kernel
theorem kc_78_89 : xe_code 78 89 = some (.iload_n 1, []) := by decide +kernel
theorem kc_78_90 : xe_code 78 90 = some (.bipush 12, []) := by decide +kernel
theorem kc_78_92 : xe_code 78 92 = some (.if_icmp .ge 22, [114]) := by decide +kernel
theorem kc_78_95 : xe_code 78 95 = some (.aload_n 0, []) := by decide +kernel
theorem kc_78_96 : xe_code 78 96 = some (.getfield 19, [4, 1, 172]) := by decide +kernel
theorem kc_78_99 : xe_code 78 99 = some (.iload_n 1, []) := by decide +kernel
theorem kc_78_100 : xe_code 78 100 = some (.new 17, [11, 86]) := by decide +kernel
theorem kc_78_103 : xe_code 78 103 = some (.dup, []) := by decide +kernel
theorem kc_78_104 : xe_code 78 104 = some (.invokespecial 46, [81, 0, 126, 11]) := by decide +kernel
theorem kc_78_107 : xe_code 78 107 = some (.aastore, []) := by decide +kernel
theorem kc_78_108 : xe_code 78 108 = some (.iinc 1 1, []) := by decide +kernel
theorem kc_78_111 : xe_code 78 111 = some (.goto (-22), [89]) := by decide +kernel
theorem kc_78_114 : xe_code 78 114 = some (.iconst 0, []) := by decide +kernel
theorem kc_78_115 : xe_code 78 115 = some (.istore_n 1, []) := by decide +kernel
theorem kc_78_116 : xe_code 78 116 = some (.iload_n 1, []) := by decide +kernel
theorem kc_78_117 : xe_code 78 117 = some (.bipush 10, []) := by decide +kernel
theorem kc_78_119 : xe_code 78 119 = some (.if_icmp .ge 22, [141]) := by decide +kernel
theorem kc_78_122 : xe_code 78 122 = some (.aload_n 0, []) := by decide +kernel
theorem kc_78_123 : xe_code 78 123 = some (.getfield 25, [4, 2, 174]) := by decide +kernel
theorem kc_78_126 : xe_code 78 126 = some (.iload_n 1, []) := by decide +kernel
theorem kc_78_127 : xe_code 78 127 = some (.new 23, [1, 88]) := by decide +kernel
theorem kc_78_130 : xe_code 78 130 = some (.dup, []) := by decide +kernel
theorem kc_78_131 : xe_code 78 131 = some (.invokespecial 47, [82, 0, 153, 1]) := by decide +kernel
theorem kc_78_134 : xe_code 78 134 = some (.aastore, []) := by decide +kernel
theorem kc_78_135 : xe_code 78 135 = some (.iinc 1 1, []) := by decide +kernel
theorem kc_78_138 : xe_code 78 138 = some (.goto (-22), [116]) := by decide +kernel
theorem kc_78_141 : xe_code 78 141 = some (.return_, []) := by decide +kernel
theorem kc_79_0 : xe_code 79 0 = some (.aload_n 0, []) := by decide +kernel
theorem kc_79_1 : xe_code 79 1 = some (.invokespecial 3, [0, 0, 95, 0]) := by decide +kernel
theorem kc_79_4 : xe_code 79 4 = some (.aload_n 0, []) := by decide +kernel
theorem kc_79_5 : xe_code 79 5 = some (.sipush 601, []) := by decide +kernel
theorem kc_79_8 : xe_code 79 8 = some (.newarray .int, [0, 109]) := by decide +kernel
theorem kc_79_10 : xe_code 79 10 = some (.putfield 9, [8, 1, 100]) := by decide +kernel
theorem kc_79_13 : xe_code 79 13 = some (.aload_n 0, []) := by decide +kernel
theorem kc_79_14 : xe_code 79 14 = some (.sipush 601, []) := by decide +kernel
theorem kc_79_17 : xe_code 79 17 = some (.newarray .int, [0, 109]) := by decide +kernel
theorem kc_79_19 : xe_code 79 19 = some (.putfield 15, [8, 2, 101]) := by decide +kernel
theorem kc_79_22 : xe_code 79 22 = some (.aload_n 0, []) := by decide +kernel
theorem kc_79_23 : xe_code 79 23 = some (.iload_n 1, []) := by decide +kernel
theorem kc_79_24 : xe_code 79 24 = some (.putfield 18, [8, 0, 99]) := by decide +kernel
theorem kc_79_27 : xe_code 79 27 = some (.aload_n 0, []) := by decide +kernel
theorem kc_79_28 : xe_code 79 28 = some (.getfield 9, [8, 1, 100]) := by decide +kernel
theorem kc_79_31 : xe_code 79 31 = some (.bipush 99, []) := by decide +kernel
theorem kc_79_33 : xe_code 79 33 = some (.invokestatic 22, [1, 2, 96, 0]) := by decide +kernel
theorem kc_79_36 : xe_code 79 36 = some (.aload_n 0, []) := by decide +kernel
theorem kc_79_37 : xe_code 79 37 = some (.getfield 15, [8, 2, 101]) := by decide +kernel
theorem kc_79_40 : xe_code 79 40 = some (.iload_n 1, []) := by decide +kernel
theorem kc_79_41 : xe_code 79 41 = some (.invokestatic 22, [1, 2, 96, 0]) := by decide +kernel
theorem kc_79_44 : xe_code 79 44 = some (.return_, []) := by decide +kernel
theorem kc_80_0 : xe_code 80 0 = some (.aload_n 0, []) := by decide +kernel
theorem kc_80_1 : xe_code 80 1 = some (.invokespecial 3, [0, 0, 114, 0]) := by decide +kernel
theorem kc_80_4 : xe_code 80 4 = some (.aload_n 0, []) := by decide +kernel
theorem kc_80_5 : xe_code 80 5 = some (.iconst 5, []) := by decide +kernel
theorem kc_80_6 : xe_code 80 6 = some (.newarray .int, [0, 109]) := by decide +kernel
theorem kc_80_8 : xe_code 80 8 = some (.dup, []) := by decide +kernel
theorem kc_80_9 : xe_code 80 9 = some (.iconst 0, []) := by decide +kernel
theorem kc_80_10 : xe_code 80 10 = some (.bipush 40, []) := by decide +kernel
theorem kc_80_12 : xe_code 80 12 = some (.iastore, []) := by decide +kernel
theorem kc_80_13 : xe_code 80 13 = some (.dup, []) := by decide +kernel
theorem kc_80_14 : xe_code 80 14 = some (.iconst 1, []) := by decide +kernel
theorem kc_80_15 : xe_code 80 15 = some (.bipush 18, []) := by decide +kernel
theorem kc_80_17 : xe_code 80 17 = some (.iastore, []) := by decide +kernel
theorem kc_80_18 : xe_code 80 18 = some (.dup, []) := by decide +kernel
theorem kc_80_19 : xe_code 80 19 = some (.iconst 2, []) := by decide +kernel
theorem kc_80_20 : xe_code 80 20 = some (.bipush 10, []) := by decide +kernel
theorem kc_80_22 : xe_code 80 22 = some (.iastore, []) := by decide +kernel
theorem kc_80_23 : xe_code 80 23 = some (.dup, []) := by decide +kernel
theorem kc_80_24 : xe_code 80 24 = some (.iconst 3, []) := by decide +kernel
theorem kc_80_25 : xe_code 80 25 = some (.iconst 0, []) := by decide +kernel
theorem kc_80_26 : xe_code 80 26 = some (.iastore, []) := by decide +kernel
theorem kc_80_27 : xe_code 80 27 = some (.dup, []) := by decide +kernel
theorem kc_80_28 : xe_code 80 28 = some (.iconst 4, []) := by decide +kernel
theorem kc_80_29 : xe_code 80 29 = some (.iconst 0, []) := by decide +kernel
theorem kc_80_30 : xe_code 80 30 = some (.iastore, []) := by decide +kernel
theorem kc_80_31 : xe_code 80 31 = some (.putfield 9, [7, 0, 115]) := by decide +kernel
theorem kc_80_34 : xe_code 80 34 = some (.aload_n 0, []) := by decide +kernel
theorem kc_80_35 : xe_code 80 35 = some (.bipush 24, []) := by decide +kernel
theorem kc_80_37 : xe_code 80 37 = some (.newarray .int, [0, 109]) := by decide +kernel
theorem kc_80_39 : xe_code 80 39 = some (.putfield 15, [7, 1, 117]) := by decide +kernel
theorem kc_80_42 : xe_code 80 42 = some (.return_, []) := by decide +kernel
theorem kc_81_0 : xe_code 81 0 = some (.aload_n 0, []) := by decide +kernel
theorem kc_81_1 : xe_code 81 1 = some (.invokespecial 3, [0, 0, 129, 0]) := by decide +kernel
theorem kc_81_4 : xe_code 81 4 = some (.aload_n 0, []) := by decide +kernel
theorem kc_81_5 : xe_code 81 5 = some (.bipush (-9), []) := by decide +kernel
theorem kc_81_7 : xe_code 81 7 = some (.putfield 9, [11, 0, 130]) := by decide +kernel
theorem kc_81_10 : xe_code 81 10 = some (.aload_n 0, []) := by decide +kernel
theorem kc_81_11 : xe_code 81 11 = some (.sipush 600, []) := by decide +kernel
theorem kc_81_14 : xe_code 81 14 = some (.newarray .int, [0, 109]) := by decide +kernel
theorem kc_81_16 : xe_code 81 16 = some (.putfield 15, [11, 4, 139]) := by decide +kernel
theorem kc_81_19 : xe_code 81 19 = some (.return_, []) := by decide +kernel
theorem kc_82_0 : xe_code 82 0 = some (.aload_n 0, []) := by decide +kernel
theorem kc_82_1 : xe_code 82 1 = some (.invokespecial 1, [0, 0, 156, 0]) := by decide +kernel
theorem kc_82_4 : xe_code 82 4 = some (.return_, []) := by decide +kernel
theorem kc_83_0 : xe_code 83 0 = some (.aload_n 0, []) := by decide +kernel
theorem kc_83_1 : xe_code 83 1 = some (.invokespecial 3, [0, 0, 201, 0]) := by decide +kernel
theorem kc_83_4 : xe_code 83 4 = some (.aload_n 0, []) := by decide +kernel
theorem kc_83_5 : xe_code 83 5 = some (.bipush 6, []) := by decide +kernel
theorem kc_83_7 : xe_code 83 7 = some (.newarray .int, [0, 109]) := by decide +kernel
theorem kc_83_9 : xe_code 83 9 = some (.putfield 9, [9, 0, 202]) := by decide +kernel
theorem kc_83_12 : xe_code 83 12 = some (.aload_n 0, []) := by decide +kernel
theorem kc_83_13 : xe_code 83 13 = some (.bipush 12, []) := by decide +kernel
theorem kc_83_15 : xe_code 83 15 = some (.newarray .int, [0, 109]) := by decide +kernel
theorem kc_83_17 : xe_code 83 17 = some (.putfield 15, [9, 1, 205]) := by decide +kernel
theorem kc_83_20 : xe_code 83 20 = some (.return_, []) := by decide +kernel
theorem kc_84_0 : xe_code 84 0 = some (.aload_n 0, []) := by decide +kernel
theorem kc_84_1 : xe_code 84 1 = some (.invokespecial 3, [0, 0, 229, 0]) := by decide +kernel
theorem kc_84_4 : xe_code 84 4 = some (.aload_n 0, []) := by decide +kernel
theorem kc_84_5 : xe_code 84 5 = some (.new 9, [9, 230]) := by decide +kernel
theorem kc_84_8 : xe_code 84 8 = some (.dup, []) := by decide +kernel
theorem kc_84_9 : xe_code 84 9 = some (.invokespecial 11, [83, 0, 231, 9]) := by decide +kernel
theorem kc_84_12 : xe_code 84 12 = some (.putfield 12, [3, 1, 233]) := by decide +kernel
theorem kc_84_15 : xe_code 84 15 = some (.aload_n 0, []) := by decide +kernel
theorem kc_84_16 : xe_code 84 16 = some (.bipush 60, []) := by decide +kernel
theorem kc_84_18 : xe_code 84 18 = some (.newarray .int, [0, 109]) := by decide +kernel
theorem kc_84_20 : xe_code 84 20 = some (.putfield 18, [3, 2, 234]) := by decide +kernel
theorem kc_84_23 : xe_code 84 23 = some (.aload_n 0, []) := by decide +kernel
theorem kc_84_24 : xe_code 84 24 = some (.bipush 60, []) := by decide +kernel
theorem kc_84_26 : xe_code 84 26 = some (.newarray .int, [0, 109]) := by decide +kernel
theorem kc_84_28 : xe_code 84 28 = some (.putfield 22, [3, 3, 235]) := by decide +kernel
theorem kc_84_31 : xe_code 84 31 = some (.aload_n 0, []) := by decide +kernel
theorem kc_84_32 : xe_code 84 32 = some (.bipush 60, []) := by decide +kernel
theorem kc_84_34 : xe_code 84 34 = some (.newarray .int, [0, 109]) := by decide +kernel
theorem kc_84_36 : xe_code 84 36 = some (.putfield 25, [3, 4, 236]) := by decide +kernel
theorem kc_84_39 : xe_code 84 39 = some (.aload_n 0, []) := by decide +kernel
theorem kc_84_40 : xe_code 84 40 = some (.bipush 60, []) := by decide +kernel
theorem kc_84_42 : xe_code 84 42 = some (.newarray .int, [0, 109]) := by decide +kernel
theorem kc_84_44 : xe_code 84 44 = some (.putfield 28, [3, 5, 237]) := by decide +kernel
theorem kc_84_47 : xe_code 84 47 = some (.aload_n 0, []) := by decide +kernel
theorem kc_84_48 : xe_code 84 48 = some (.bipush 64, []) := by decide +kernel
theorem kc_84_50 : xe_code 84 50 = some (.newarray .long, [1, 261]) := by decide +kernel
theorem kc_84_52 : xe_code 84 52 = some (.putfield 31, [3, 6, 238]) := by decide +kernel
theorem kc_84_55 : xe_code 84 55 = some (.aload_n 0, []) := by decide +kernel
theorem kc_84_56 : xe_code 84 56 = some (.aload_n 1, []) := by decide +kernel
theorem kc_84_57 : xe_code 84 57 = some (.putfield 35, [3, 0, 232]) := by decide +kernel
theorem kc_84_60 : xe_code 84 60 = some (.return_, []) := by decide +kernel
theorem kc_85_0 : xe_code 85 0 = some (.aload_n 0, []) := by decide +kernel
theorem kc_85_1 : xe_code 85 1 = some (.invokespecial 3, [0, 0, 267, 0]) := by decide +kernel
theorem kc_85_4 : xe_code 85 4 = some (.aload_n 0, []) := by decide +kernel
theorem kc_85_5 : xe_code 85 5 = some (.bipush 8, []) := by decide +kernel
theorem kc_85_7 : xe_code 85 7 = some (.newarray .long, [1, 261]) := by decide +kernel
theorem kc_85_9 : xe_code 85 9 = some (.putfield 9, [6, 0, 268]) := by decide +kernel
theorem kc_85_12 : xe_code 85 12 = some (.aload_n 0, []) := by decide +kernel
theorem kc_85_13 : xe_code 85 13 = some (.bipush 8, []) := by decide +kernel
theorem kc_85_15 : xe_code 85 15 = some (.newarray .int, [0, 109]) := by decide +kernel
theorem kc_85_17 : xe_code 85 17 = some (.putfield 15, [6, 1, 269]) := by decide +kernel
theorem kc_85_20 : xe_code 85 20 = some (.aload_n 0, []) := by decide +kernel
theorem kc_85_21 : xe_code 85 21 = some (.sipush 6561, []) := by decide +kernel
theorem kc_85_24 : xe_code 85 24 = some (.newarray .int, [0, 109]) := by decide +kernel
theorem kc_85_26 : xe_code 85 26 = some (.putfield 19, [6, 2, 270]) := by decide +kernel
theorem kc_85_29 : xe_code 85 29 = some (.aload_n 0, []) := by decide +kernel
theorem kc_85_30 : xe_code 85 30 = some (.bipush 8, []) := by decide +kernel
theorem kc_85_32 : xe_code 85 32 = some (.newarray .int, [0, 109]) := by decide +kernel
theorem kc_85_34 : xe_code 85 34 = some (.putfield 22, [6, 3, 271]) := by decide +kernel
theorem kc_85_37 : xe_code 85 37 = some (.return_, []) := by decide +kernel
theorem kc_86_0 : xe_code 86 0 = some (.aload_n 0, []) := by decide +kernel
theorem kc_86_1 : xe_code 86 1 = some (.invokespecial 3, [0, 0, 291, 0]) := by decide +kernel
theorem kc_86_4 : xe_code 86 4 = some (.aload_n 0, []) := by decide +kernel
theorem kc_86_5 : xe_code 86 5 = some (.bipush 24, []) := by decide +kernel
theorem kc_86_7 : xe_code 86 7 = some (.newarray .int, [0, 109]) := by decide +kernel
theorem kc_86_9 : xe_code 86 9 = some (.putfield 9, [2, 0, 293]) := by decide +kernel
theorem kc_86_12 : xe_code 86 12 = some (.aload_n 0, []) := by decide +kernel
theorem kc_86_13 : xe_code 86 13 = some (.bipush 24, []) := by decide +kernel
theorem kc_86_15 : xe_code 86 15 = some (.newarray .int, [0, 109]) := by decide +kernel
theorem kc_86_17 : xe_code 86 17 = some (.putfield 15, [2, 1, 294]) := by decide +kernel
theorem kc_86_20 : xe_code 86 20 = some (.aload_n 0, []) := by decide +kernel
theorem kc_86_21 : xe_code 86 21 = some (.bipush 24, []) := by decide +kernel
theorem kc_86_23 : xe_code 86 23 = some (.newarray .int, [0, 109]) := by decide +kernel
theorem kc_86_25 : xe_code 86 25 = some (.putfield 18, [2, 2, 295]) := by decide +kernel
theorem kc_86_28 : xe_code 86 28 = some (.aload_n 0, []) := by decide +kernel
theorem kc_86_29 : xe_code 86 29 = some (.bipush 16, []) := by decide +kernel
theorem kc_86_31 : xe_code 86 31 = some (.newarray .int, [0, 109]) := by decide +kernel
theorem kc_86_33 : xe_code 86 33 = some (.putfield 21, [2, 3, 296]) := by decide +kernel
theorem kc_86_36 : xe_code 86 36 = some (.aload_n 0, []) := by decide +kernel
theorem kc_86_37 : xe_code 86 37 = some (.getfield 18, [2, 2, 295]) := by decide +kernel
theorem kc_86_40 : xe_code 86 40 = some (.iconst 2, []) := by decide +kernel
theorem kc_86_41 : xe_code 86 41 = some (.invokestatic 24, [1, 2, 292, 0]) := by decide +kernel
theorem kc_86_44 : xe_code 86 44 = some (.return_, []) := by decide +kernel
theorem kc_87_0 : xe_code 87 0 = some (.aload_n 0, []) := by decide +kernel
theorem kc_87_1 : xe_code 87 1 = some (.invokespecial 3, [0, 0, 311, 0]) := by decide +kernel
theorem kc_87_4 : xe_code 87 4 = some (.aload_n 0, []) := by decide +kernel
theorem kc_87_5 : xe_code 87 5 = some (.bipush 12, []) := by decide +kernel
theorem kc_87_7 : xe_code 87 7 = some (.newarray .int, [0, 109]) := by decide +kernel
theorem kc_87_9 : xe_code 87 9 = some (.putfield 9, [5, 0, 313]) := by decide +kernel
theorem kc_87_12 : xe_code 87 12 = some (.aload_n 0, []) := by decide +kernel
theorem kc_87_13 : xe_code 87 13 = some (.bipush 12, []) := by decide +kernel
theorem kc_87_15 : xe_code 87 15 = some (.newarray .int, [0, 109]) := by decide +kernel
theorem kc_87_17 : xe_code 87 17 = some (.putfield 15, [5, 1, 314]) := by decide +kernel
theorem kc_87_20 : xe_code 87 20 = some (.aload_n 0, []) := by decide +kernel
theorem kc_87_21 : xe_code 87 21 = some (.bipush 12, []) := by decide +kernel
theorem kc_87_23 : xe_code 87 23 = some (.newarray .int, [0, 109]) := by decide +kernel
theorem kc_87_25 : xe_code 87 25 = some (.putfield 18, [5, 2, 315]) := by decide +kernel
theorem kc_87_28 : xe_code 87 28 = some (.aload_n 0, []) := by decide +kernel
theorem kc_87_29 : xe_code 87 29 = some (.bipush 12, []) := by decide +kernel
theorem kc_87_31 : xe_code 87 31 = some (.newarray .int, [0, 109]) := by decide +kernel
theorem kc_87_33 : xe_code 87 33 = some (.putfield 21, [5, 3, 316]) := by decide +kernel
theorem kc_87_36 : xe_code 87 36 = some (.aload_n 0, []) := by decide +kernel
theorem kc_87_37 : xe_code 87 37 = some (.iconst 4, []) := by decide +kernel
theorem kc_87_38 : xe_code 87 38 = some (.newarray .int, [0, 109]) := by decide +kernel
theorem kc_87_40 : xe_code 87 40 = some (.putfield 24, [5, 4, 317]) := by decide +kernel
theorem kc_87_43 : xe_code 87 43 = some (.aload_n 0, []) := by decide +kernel
theorem kc_87_44 : xe_code 87 44 = some (.iconst 4, []) := by decide +kernel
theorem kc_87_45 : xe_code 87 45 = some (.newarray .int, [0, 109]) := by decide +kernel
theorem kc_87_47 : xe_code 87 47 = some (.putfield 27, [5, 5, 318]) := by decide +kernel
theorem kc_87_50 : xe_code 87 50 = some (.aload_n 0, []) := by decide +kernel
theorem kc_87_51 : xe_code 87 51 = some (.iconst 4, []) := by decide +kernel
theorem kc_87_52 : xe_code 87 52 = some (.newarray .int, [0, 109]) := by decide +kernel
theorem kc_87_54 : xe_code 87 54 = some (.putfield 30, [5, 6, 319]) := by decide +kernel
theorem kc_87_57 : xe_code 87 57 = some (.aload_n 0, []) := by decide +kernel
theorem kc_87_58 : xe_code 87 58 = some (.getfield 30, [5, 6, 319]) := by decide +kernel
theorem kc_87_61 : xe_code 87 61 = some (.bipush (-9), []) := by decide +kernel
theorem kc_87_63 : xe_code 87 63 = some (.invokestatic 33, [1, 2, 312, 0]) := by decide +kernel
theorem kc_87_66 : xe_code 87 66 = some (.return_, []) := by decide +kernel
theorem kc_88_0 : xe_code 88 0 = some (.aload_n 0, []) := by decide +kernel
theorem kc_88_1 : xe_code 88 1 = some (.invokespecial 1, [0, 0, 349, 0]) := by decide +kernel
theorem kc_88_4 : xe_code 88 4 = some (.return_, []) := by decide +kernel
theorem kc_89_0 : xe_code 89 0 = some (.iload_n 1, []) := by decide +kernel
theorem kc_89_1 : xe_code 89 1 = some (.invokestatic 68, [90, 1, 404, 0]) := by decide +kernel
theorem kc_89_4 : xe_code 89 4 = some (.ifCond .ne 9, [13]) := by decide +kernel
theorem kc_89_7 : xe_code 89 7 = some (.aload_n 0, []) := by decide +kernel
theorem kc_89_8 : xe_code 89 8 = some (.iconst (-1), []) := by decide +kernel
theorem kc_89_9 : xe_code 89 9 = some (.invokevirtual 72, [91, 1, 407, 0]) := by decide +kernel
theorem kc_89_12 : xe_code 89 12 = some (.ireturn, []) := by decide +kernel
theorem kc_89_13 : xe_code 89 13 = some (.iload_n 2, []) := by decide +kernel
theorem kc_89_14 : xe_code 89 14 = some (.ifCond .lt 8, [22]) := by decide +kernel
theorem kc_89_17 : xe_code 89 17 = some (.iload_n 2, []) := by decide +kernel
theorem kc_89_18 : xe_code 89 18 = some (.iconst 5, []) := by decide +kernel
theorem kc_89_19 : xe_code 89 19 = some (.if_icmp .le 10, [29]) := by decide +kernel
theorem kc_89_22 : xe_code 89 22 = some (.aload_n 0, []) := by decide +kernel
theorem kc_89_23 : xe_code 89 23 = some (.bipush (-2), []) := by decide +kernel
theorem kc_89_25 : xe_code 89 25 = some (.invokevirtual 72, [91, 1, 407, 0]) := by decide +kernel
theorem kc_89_28 : xe_code 89 28 = some (.ireturn, []) := by decide +kernel
theorem kc_89_29 : xe_code 89 29 = some (.iload_n 3, []) := by decide +kernel
theorem kc_89_30 : xe_code 89 30 = some (.getstatic 76, [1, 411]) := by decide +kernel
theorem kc_89_33 : xe_code 89 33 = some (.iload_n 2, []) := by decide +kernel
theorem kc_89_34 : xe_code 89 34 = some (.iaload, []) := by decide +kernel
theorem kc_89_35 : xe_code 89 35 = some (.if_icmp .ge 10, [45]) := by decide +kernel
theorem kc_89_38 : xe_code 89 38 = some (.aload_n 0, []) := by decide +kernel
theorem kc_89_39 : xe_code 89 39 = some (.bipush (-4), []) := by decide +kernel
theorem kc_89_41 : xe_code 89 41 = some (.invokevirtual 72, [91, 1, 407, 0]) := by decide +kernel
theorem kc_89_44 : xe_code 89 44 = some (.ireturn, []) := by decide +kernel
theorem kc_89_45 : xe_code 89 45 = some (.iload_n 3, []) := by decide +kernel
theorem kc_89_46 : xe_code 89 46 = some (.getstatic 79, [2, 413]) := by decide +kernel
theorem kc_89_49 : xe_code 89 49 = some (.iload_n 2, []) := by decide +kernel
theorem kc_89_50 : xe_code 89 50 = some (.iaload, []) := by decide +kernel
theorem kc_89_51 : xe_code 89 51 = some (.if_icmp .le 10, [61]) := by decide +kernel
theorem kc_89_54 : xe_code 89 54 = some (.aload_n 0, []) := by decide +kernel
theorem kc_89_55 : xe_code 89 55 = some (.bipush (-6), []) := by decide +kernel
theorem kc_89_57 : xe_code 89 57 = some (.invokevirtual 72, [91, 1, 407, 0]) := by decide +kernel
theorem kc_89_60 : xe_code 89 60 = some (.ireturn, []) := by decide +kernel
theorem kc_89_61 : xe_code 89 61 = some (.iload_n 2, []) := by decide +kernel
theorem kc_89_62 : xe_code 89 62 = some (.iconst 5, []) := by decide +kernel
theorem kc_89_63 : xe_code 89 63 = some (.if_icmp .ne 27, [90]) := by decide +kernel
theorem kc_89_66 : xe_code 89 66 = some (.aload_n 0, []) := by decide +kernel
theorem kc_89_67 : xe_code 89 67 = some (.getfield 19, [0, 1, 370]) := by decide +kernel
theorem kc_89_70 : xe_code 89 70 = some (.getfield 82, [9, 0, 203]) := by decide +kernel
theorem kc_89_73 : xe_code 89 73 = some (.iload_n 1, []) := by decide +kernel
theorem kc_89_74 : xe_code 89 74 = some (.iaload, []) := by decide +kernel
theorem kc_89_75 : xe_code 89 75 = some (.istore 4, []) := by decide +kernel
theorem kc_89_77 : xe_code 89 77 = some (.aload_n 0, []) := by decide +kernel
theorem kc_89_78 : xe_code 89 78 = some (.getfield 19, [0, 1, 370]) := by decide +kernel
theorem kc_89_81 : xe_code 89 81 = some (.getfield 82, [9, 0, 203]) := by decide +kernel
theorem kc_89_84 : xe_code 89 84 = some (.iload_n 1, []) := by decide +kernel
theorem kc_89_85 : xe_code 89 85 = some (.iload_n 3, []) := by decide +kernel
theorem kc_89_86 : xe_code 89 86 = some (.iastore, []) := by decide +kernel
theorem kc_89_87 : xe_code 89 87 = some (.iload 4, []) := by decide +kernel
theorem kc_89_89 : xe_code 89 89 = some (.ireturn, []) := by decide +kernel
theorem kc_89_90 : xe_code 89 90 = some (.aload_n 0, []) := by decide +kernel
theorem kc_89_91 : xe_code 89 91 = some (.getfield 28, [0, 2, 371]) := by decide +kernel
theorem kc_89_94 : xe_code 89 94 = some (.invokevirtual 85, [92, 0, 415, 3]) := by decide +kernel
theorem kc_89_97 : xe_code 89 97 = some (.aload_n 0, []) := by decide +kernel
theorem kc_89_98 : xe_code 89 98 = some (.getfield 10, [0, 0, 369]) := by decide +kernel
theorem kc_89_101 : xe_code 89 101 = some (.iload_n 1, []) := by decide +kernel
theorem kc_89_102 : xe_code 89 102 = some (.iload_n 2, []) := by decide +kernel
theorem kc_89_103 : xe_code 89 103 = some (.iload_n 3, []) := by decide +kernel
theorem kc_89_104 : xe_code 89 104 = some (.invokevirtual 88, [93, 3, 419, 4]) := by decide +kernel
theorem kc_89_107 : xe_code 89 107 = some (.ireturn, []) := by decide +kernel
theorem kc_90_0 : xe_code 90 0 = some (.iload_n 0, []) := by decide +kernel
theorem kc_90_1 : xe_code 90 1 = some (.ifCond .lt 13, [14]) := by decide +kernel
theorem kc_90_4 : xe_code 90 4 = some (.iload_n 0, []) := by decide +kernel
theorem kc_90_5 : xe_code 90 5 = some (.bipush 6, []) := by decide +kernel
theorem kc_90_7 : xe_code 90 7 = some (.if_icmp .ge 7, [14]) := by decide +kernel
theorem kc_90_10 : xe_code 90 10 = some (.iconst 1, []) := by decide +kernel
theorem kc_90_11 : xe_code 90 11 = some (.goto 4, [15]) := by decide +kernel
theorem kc_90_14 : xe_code 90 14 = some (.iconst 0, []) := by decide +kernel
theorem kc_90_15 : xe_code 90 15 = some (.ireturn, []) := by decide +kernel
theorem kc_91_0 : xe_code 91 0 = some (.iload_n 1, []) := by decide +kernel
theorem kc_91_1 : xe_code 91 1 = some (.ineg, []) := by decide +kernel
theorem kc_91_2 : xe_code 91 2 = some (.istore_n 2, []) := by decide +kernel
theorem kc_91_3 : xe_code 91 3 = some (.iload_n 2, []) := by decide +kernel
theorem kc_91_4 : xe_code 91 4 = some (.ifCond .lt 22, [26]) := by decide +kernel
theorem kc_91_7 : xe_code 91 7 = some (.iload_n 2, []) := by decide +kernel
theorem kc_91_8 : xe_code 91 8 = some (.aload_n 0, []) := by decide +kernel
theorem kc_91_9 : xe_code 91 9 = some (.getfield 59, [0, 7, 376]) := by decide +kernel
theorem kc_91_12 : xe_code 91 12 = some (.arraylength, []) := by decide +kernel
theorem kc_91_13 : xe_code 91 13 = some (.if_icmp .ge 13, [26]) := by decide +kernel
theorem kc_91_16 : xe_code 91 16 = some (.aload_n 0, []) := by decide +kernel
theorem kc_91_17 : xe_code 91 17 = some (.getfield 59, [0, 7, 376]) := by decide +kernel
theorem kc_91_20 : xe_code 91 20 = some (.iload_n 2, []) := by decide +kernel
theorem kc_91_21 : xe_code 91 21 = some (.dup2, []) := by decide +kernel
theorem kc_91_22 : xe_code 91 22 = some (.iaload, []) := by decide +kernel
theorem kc_91_23 : xe_code 91 23 = some (.iconst 1, []) := by decide +kernel
theorem kc_91_24 : xe_code 91 24 = some (.iadd, []) := by decide +kernel
theorem kc_91_25 : xe_code 91 25 = some (.iastore, []) := by decide +kernel
theorem kc_91_26 : xe_code 91 26 = some (.iload_n 1, []) := by decide +kernel
theorem kc_91_27 : xe_code 91 27 = some (.ireturn, []) := by decide +kernel
theorem kc_92_0 : xe_code 92 0 = some (.aload_n 0, []) := by decide +kernel
theorem kc_92_1 : xe_code 92 1 = some (.lconst 0, []) := by decide +kernel
theorem kc_92_2 : xe_code 92 2 = some (.putfield 39, [3, 7, 239]) := by decide +kernel
theorem kc_92_5 : xe_code 92 5 = some (.return_, []) := by decide +kernel
theorem kc_93_0 : xe_code 93 0 = some (.iload_n 1, []) := by decide +kernel
theorem kc_93_1 : xe_code 93 1 = some (.invokestatic 48, [90, 1, 423, 0]) := by decide +kernel
theorem kc_93_4 : xe_code 93 4 = some (.ifCond .eq 17, [21]) := by decide +kernel
theorem kc_93_7 : xe_code 93 7 = some (.aload_n 0, []) := by decide +kernel
theorem kc_93_8 : xe_code 93 8 = some (.getfield 11, [4, 0, 170]) := by decide +kernel
theorem kc_93_11 : xe_code 93 11 = some (.iload_n 1, []) := by decide +kernel
theorem kc_93_12 : xe_code 93 12 = some (.aaload, []) := by decide +kernel
theorem kc_93_13 : xe_code 93 13 = some (.iload_n 2, []) := by decide +kernel
theorem kc_93_14 : xe_code 93 14 = some (.iload_n 3, []) := by decide +kernel
theorem kc_93_15 : xe_code 93 15 = some (.invokevirtual 52, [94, 2, 424, 7]) := by decide +kernel
theorem kc_93_18 : xe_code 93 18 = some (.goto 4, [22]) := by decide +kernel
theorem kc_93_21 : xe_code 93 21 = some (.iconst 0, []) := by decide +kernel
theorem kc_93_22 : xe_code 93 22 = some (.ireturn, []) := by decide +kernel
theorem kc_94_0 : xe_code 94 0 = some (.iload_n 1, []) := by decide +kernel
theorem kc_94_1 : xe_code 94 1 = some (.ifCond .lt 8, [9]) := by decide +kernel
theorem kc_94_4 : xe_code 94 4 = some (.iload_n 1, []) := by decide +kernel
theorem kc_94_5 : xe_code 94 5 = some (.iconst 5, []) := by decide +kernel
theorem kc_94_6 : xe_code 94 6 = some (.if_icmp .lt 5, [11]) := by decide +kernel
theorem kc_94_9 : xe_code 94 9 = some (.iconst 0, []) := by decide +kernel
theorem kc_94_10 : xe_code 94 10 = some (.ireturn, []) := by decide +kernel
theorem kc_94_11 : xe_code 94 11 = some (.aload_n 0, []) := by decide +kernel
theorem kc_94_12 : xe_code 94 12 = some (.getfield 9, [7, 0, 115]) := by decide +kernel
theorem kc_94_15 : xe_code 94 15 = some (.iload_n 1, []) := by decide +kernel
theorem kc_94_16 : xe_code 94 16 = some (.iaload, []) := by decide +kernel
theorem kc_94_17 : xe_code 94 17 = some (.istore_n 3, []) := by decide +kernel
theorem kc_94_18 : xe_code 94 18 = some (.aload_n 0, []) := by decide +kernel
theorem kc_94_19 : xe_code 94 19 = some (.getfield 9, [7, 0, 115]) := by decide +kernel
theorem kc_94_22 : xe_code 94 22 = some (.iload_n 1, []) := by decide +kernel
theorem kc_94_23 : xe_code 94 23 = some (.iload_n 2, []) := by decide +kernel
theorem kc_94_24 : xe_code 94 24 = some (.iastore, []) := by decide +kernel
theorem kc_94_25 : xe_code 94 25 = some (.iload_n 3, []) := by decide +kernel
theorem kc_94_26 : xe_code 94 26 = some (.ireturn, []) := by decide +kernel
theorem kc_95_0 : xe_code 95 0 = some (.iload_n 1, []) := by decide +kernel
theorem kc_95_1 : xe_code 95 1 = some (.invokestatic 68, [90, 1, 404, 0]) := by decide +kernel
theorem kc_95_4 : xe_code 95 4 = some (.ifCond .eq 13, [17]) := by decide +kernel
theorem kc_95_7 : xe_code 95 7 = some (.iload_n 2, []) := by decide +kernel
theorem kc_95_8 : xe_code 95 8 = some (.ifCond .lt 9, [17]) := by decide +kernel
theorem kc_95_11 : xe_code 95 11 = some (.iload_n 2, []) := by decide +kernel
theorem kc_95_12 : xe_code 95 12 = some (.bipush 24, []) := by decide +kernel
theorem kc_95_14 : xe_code 95 14 = some (.if_icmp .lt 9, [23]) := by decide +kernel
theorem kc_95_17 : xe_code 95 17 = some (.aload_n 0, []) := by decide +kernel
theorem kc_95_18 : xe_code 95 18 = some (.iconst (-1), []) := by decide +kernel
theorem kc_95_19 : xe_code 95 19 = some (.invokevirtual 72, [91, 1, 407, 0]) := by decide +kernel
theorem kc_95_22 : xe_code 95 22 = some (.ireturn, []) := by decide +kernel
theorem kc_95_23 : xe_code 95 23 = some (.iload_n 3, []) := by decide +kernel
theorem kc_95_24 : xe_code 95 24 = some (.ifCond .ge 10, [34]) := by decide +kernel
theorem kc_95_27 : xe_code 95 27 = some (.aload_n 0, []) := by decide +kernel
theorem kc_95_28 : xe_code 95 28 = some (.bipush (-4), []) := by decide +kernel
theorem kc_95_30 : xe_code 95 30 = some (.invokevirtual 72, [91, 1, 407, 0]) := by decide +kernel
theorem kc_95_33 : xe_code 95 33 = some (.ireturn, []) := by decide +kernel
theorem kc_95_34 : xe_code 95 34 = some (.iload_n 3, []) := by decide +kernel
theorem kc_95_35 : xe_code 95 35 = some (.sipush 999, []) := by decide +kernel
theorem kc_95_38 : xe_code 95 38 = some (.if_icmp .le 10, [48]) := by decide +kernel
theorem kc_95_41 : xe_code 95 41 = some (.aload_n 0, []) := by decide +kernel
theorem kc_95_42 : xe_code 95 42 = some (.bipush (-6), []) := by decide +kernel
theorem kc_95_44 : xe_code 95 44 = some (.invokevirtual 72, [91, 1, 407, 0]) := by decide +kernel
theorem kc_95_47 : xe_code 95 47 = some (.ireturn, []) := by decide +kernel
theorem kc_95_48 : xe_code 95 48 = some (.aload_n 0, []) := by decide +kernel
theorem kc_95_49 : xe_code 95 49 = some (.getfield 28, [0, 2, 371]) := by decide +kernel
theorem kc_95_52 : xe_code 95 52 = some (.invokevirtual 85, [92, 0, 415, 3]) := by decide +kernel
theorem kc_95_55 : xe_code 95 55 = some (.aload_n 0, []) := by decide +kernel
theorem kc_95_56 : xe_code 95 56 = some (.getfield 10, [0, 0, 369]) := by decide +kernel
theorem kc_95_59 : xe_code 95 59 = some (.getfield 92, [4, 0, 171]) := by decide +kernel
theorem kc_95_62 : xe_code 95 62 = some (.iload_n 1, []) := by decide +kernel
theorem kc_95_63 : xe_code 95 63 = some (.aaload, []) := by decide +kernel
theorem kc_95_64 : xe_code 95 64 = some (.getfield 95, [7, 1, 118]) := by decide +kernel
theorem kc_95_67 : xe_code 95 67 = some (.astore 4, []) := by decide +kernel
theorem kc_95_69 : xe_code 95 69 = some (.aload 4, []) := by decide +kernel
theorem kc_95_71 : xe_code 95 71 = some (.iload_n 2, []) := by decide +kernel
theorem kc_95_72 : xe_code 95 72 = some (.iaload, []) := by decide +kernel
theorem kc_95_73 : xe_code 95 73 = some (.istore 5, []) := by decide +kernel
theorem kc_95_75 : xe_code 95 75 = some (.aload 4, []) := by decide +kernel
theorem kc_95_77 : xe_code 95 77 = some (.iload_n 2, []) := by decide +kernel
theorem kc_95_78 : xe_code 95 78 = some (.iload_n 3, []) := by decide +kernel
theorem kc_95_79 : xe_code 95 79 = some (.iastore, []) := by decide +kernel
theorem kc_95_80 : xe_code 95 80 = some (.iload 5, []) := by decide +kernel
theorem kc_95_82 : xe_code 95 82 = some (.ireturn, []) := by decide +kernel
theorem kc_96_0 : xe_code 96 0 = some (.iload_n 2, []) := by decide +kernel
theorem kc_96_1 : xe_code 96 1 = some (.ifCond .eq 15, [16]) := by decide +kernel
theorem kc_96_4 : xe_code 96 4 = some (.iload_n 2, []) := by decide +kernel
theorem kc_96_5 : xe_code 96 5 = some (.iconst 1, []) := by decide +kernel
theorem kc_96_6 : xe_code 96 6 = some (.if_icmp .eq 10, [16]) := by decide +kernel
theorem kc_96_9 : xe_code 96 9 = some (.aload_n 0, []) := by decide +kernel
theorem kc_96_10 : xe_code 96 10 = some (.bipush (-2), []) := by decide +kernel
theorem kc_96_12 : xe_code 96 12 = some (.invokevirtual 100, [97, 1, 436, 0]) := by decide +kernel
theorem kc_96_15 : xe_code 96 15 = some (.ireturn, []) := by decide +kernel
theorem kc_96_16 : xe_code 96 16 = some (.iload_n 2, []) := by decide +kernel
theorem kc_96_17 : xe_code 96 17 = some (.ifCond .ne 8, [25]) := by decide +kernel
theorem kc_96_20 : xe_code 96 20 = some (.bipush (-20), []) := by decide +kernel
theorem kc_96_22 : xe_code 96 22 = some (.goto 4, [26]) := by decide +kernel
theorem kc_96_25 : xe_code 96 25 = some (.iconst 0, []) := by decide +kernel
theorem kc_96_26 : xe_code 96 26 = some (.istore 4, []) := by decide +kernel
theorem kc_96_28 : xe_code 96 28 = some (.iload_n 2, []) := by decide +kernel
theorem kc_96_29 : xe_code 96 29 = some (.ifCond .ne 8, [37]) := by decide +kernel
theorem kc_96_32 : xe_code 96 32 = some (.bipush 30, []) := by decide +kernel
theorem kc_96_34 : xe_code 96 34 = some (.goto 5, [39]) := by decide +kernel
theorem kc_96_37 : xe_code 96 37 = some (.bipush 20, []) := by decide +kernel
theorem kc_96_39 : xe_code 96 39 = some (.istore 5, []) := by decide +kernel
theorem kc_96_41 : xe_code 96 41 = some (.iload_n 1, []) := by decide +kernel
theorem kc_96_42 : xe_code 96 42 = some (.ifCond .lt 9, [51]) := by decide +kernel
theorem kc_96_45 : xe_code 96 45 = some (.iload_n 3, []) := by decide +kernel
theorem kc_96_46 : xe_code 96 46 = some (.iload 4, []) := by decide +kernel
theorem kc_96_48 : xe_code 96 48 = some (.if_icmp .ge 10, [58]) := by decide +kernel
theorem kc_96_51 : xe_code 96 51 = some (.aload_n 0, []) := by decide +kernel
theorem kc_96_52 : xe_code 96 52 = some (.bipush (-4), []) := by decide +kernel
theorem kc_96_54 : xe_code 96 54 = some (.invokevirtual 100, [97, 1, 436, 0]) := by decide +kernel
theorem kc_96_57 : xe_code 96 57 = some (.ireturn, []) := by decide +kernel
theorem kc_96_58 : xe_code 96 58 = some (.iload_n 1, []) := by decide +kernel
theorem kc_96_59 : xe_code 96 59 = some (.sipush 600, []) := by decide +kernel
theorem kc_96_62 : xe_code 96 62 = some (.if_icmp .ge 15, [77]) := by decide +kernel
theorem kc_96_65 : xe_code 96 65 = some (.iload_n 3, []) := by decide +kernel
theorem kc_96_66 : xe_code 96 66 = some (.iload 5, []) := by decide +kernel
theorem kc_96_68 : xe_code 96 68 = some (.if_icmp .le 16, [84]) := by decide +kernel
theorem kc_96_71 : xe_code 96 71 = some (.iload_n 3, []) := by decide +kernel
theorem kc_96_72 : xe_code 96 72 = some (.bipush 99, []) := by decide +kernel
theorem kc_96_74 : xe_code 96 74 = some (.if_icmp .eq 10, [84]) := by decide +kernel
theorem kc_96_77 : xe_code 96 77 = some (.aload_n 0, []) := by decide +kernel
theorem kc_96_78 : xe_code 96 78 = some (.bipush (-6), []) := by decide +kernel
theorem kc_96_80 : xe_code 96 80 = some (.invokevirtual 100, [97, 1, 436, 0]) := by decide +kernel
theorem kc_96_83 : xe_code 96 83 = some (.ireturn, []) := by decide +kernel
theorem kc_96_84 : xe_code 96 84 = some (.aload_n 0, []) := by decide +kernel
theorem kc_96_85 : xe_code 96 85 = some (.getfield 28, [0, 2, 371]) := by decide +kernel
theorem kc_96_88 : xe_code 96 88 = some (.invokevirtual 85, [92, 0, 415, 3]) := by decide +kernel
theorem kc_96_91 : xe_code 96 91 = some (.aload_n 0, []) := by decide +kernel
theorem kc_96_92 : xe_code 96 92 = some (.getfield 10, [0, 0, 369]) := by decide +kernel
theorem kc_96_95 : xe_code 96 95 = some (.iload_n 2, []) := by decide +kernel
theorem kc_96_96 : xe_code 96 96 = some (.invokevirtual 103, [98, 1, 441, 4]) := by decide +kernel
theorem kc_96_99 : xe_code 96 99 = some (.iload_n 1, []) := by decide +kernel
theorem kc_96_100 : xe_code 96 100 = some (.iload_n 3, []) := by decide +kernel
theorem kc_96_101 : xe_code 96 101 = some (.invokevirtual 107, [99, 2, 445, 8]) := by decide +kernel
theorem kc_96_104 : xe_code 96 104 = some (.ireturn, []) := by decide +kernel
theorem kc_97_0 : xe_code 97 0 = some (.ldc_w 310, [1000000000, 440]) := by decide +kernel
theorem kc_97_3 : xe_code 97 3 = some (.aload_n 0, []) := by decide +kernel
theorem kc_97_4 : xe_code 97 4 = some (.iload_n 1, []) := by decide +kernel
theorem kc_97_5 : xe_code 97 5 = some (.invokevirtual 72, [91, 1, 407, 0]) := by decide +kernel
theorem kc_97_8 : xe_code 97 8 = some (.isub, []) := by decide +kernel
theorem kc_97_9 : xe_code 97 9 = some (.ireturn, []) := by decide +kernel
theorem kc_98_0 : xe_code 98 0 = some (.iload_n 1, []) := by decide +kernel
theorem kc_98_1 : xe_code 98 1 = some (.ifCond .ne 10, [11]) := by decide +kernel
theorem kc_98_4 : xe_code 98 4 = some (.aload_n 0, []) := by decide +kernel
theorem kc_98_5 : xe_code 98 5 = some (.getfield 34, [4, 3, 175]) := by decide +kernel
theorem kc_98_8 : xe_code 98 8 = some (.goto 7, [15]) := by decide +kernel
theorem kc_98_11 : xe_code 98 11 = some (.aload_n 0, []) := by decide +kernel
theorem kc_98_12 : xe_code 98 12 = some (.getfield 38, [4, 4, 176]) := by decide +kernel
theorem kc_98_15 : xe_code 98 15 = some (.areturn, []) := by decide +kernel
theorem kc_99_0 : xe_code 99 0 = some (.iload_n 1, []) := by decide +kernel
theorem kc_99_1 : xe_code 99 1 = some (.ifCond .lt 12, [13]) := by decide +kernel
theorem kc_99_4 : xe_code 99 4 = some (.iload_n 1, []) := by decide +kernel
theorem kc_99_5 : xe_code 99 5 = some (.aload_n 0, []) := by decide +kernel
theorem kc_99_6 : xe_code 99 6 = some (.getfield 9, [8, 1, 100]) := by decide +kernel
theorem kc_99_9 : xe_code 99 9 = some (.arraylength, []) := by decide +kernel
theorem kc_99_10 : xe_code 99 10 = some (.if_icmp .lt 6, [16]) := by decide +kernel
theorem kc_99_13 : xe_code 99 13 = some (.bipush 99, []) := by decide +kernel
theorem kc_99_15 : xe_code 99 15 = some (.ireturn, []) := by decide +kernel
theorem kc_99_16 : xe_code 99 16 = some (.aload_n 0, []) := by decide +kernel
theorem kc_99_17 : xe_code 99 17 = some (.getfield 9, [8, 1, 100]) := by decide +kernel
theorem kc_99_20 : xe_code 99 20 = some (.iload_n 1, []) := by decide +kernel
theorem kc_99_21 : xe_code 99 21 = some (.iaload, []) := by decide +kernel
theorem kc_99_22 : xe_code 99 22 = some (.istore_n 3, []) := by decide +kernel
theorem kc_99_23 : xe_code 99 23 = some (.aload_n 0, []) := by decide +kernel
theorem kc_99_24 : xe_code 99 24 = some (.getfield 9, [8, 1, 100]) := by decide +kernel
theorem kc_99_27 : xe_code 99 27 = some (.iload_n 1, []) := by decide +kernel
theorem kc_99_28 : xe_code 99 28 = some (.iload_n 2, []) := by decide +kernel
theorem kc_99_29 : xe_code 99 29 = some (.iastore, []) := by decide +kernel
theorem kc_99_30 : xe_code 99 30 = some (.aload_n 0, []) := by decide +kernel
theorem kc_99_31 : xe_code 99 31 = some (.iload_n 1, []) := by decide +kernel
theorem kc_99_32 : xe_code 99 32 = some (.iconst 1, []) := by decide +kernel
theorem kc_99_33 : xe_code 99 33 = some (.isub, []) := by decide +kernel
theorem kc_99_34 : xe_code 99 34 = some (.invokevirtual 28, [100, 1, 449, 8]) := by decide +kernel
theorem kc_99_37 : xe_code 99 37 = some (.istore 4, []) := by decide +kernel
theorem kc_99_39 : xe_code 99 39 = some (.iload_n 1, []) := by decide +kernel
theorem kc_99_40 : xe_code 99 40 = some (.istore 5, []) := by decide +kernel
theorem kc_99_42 : xe_code 99 42 = some (.iload 5, []) := by decide +kernel
theorem kc_99_44 : xe_code 99 44 = some (.aload_n 0, []) := by decide +kernel
theorem kc_99_45 : xe_code 99 45 = some (.getfield 9, [8, 1, 100]) := by decide +kernel
theorem kc_99_48 : xe_code 99 48 = some (.arraylength, []) := by decide +kernel
theorem kc_99_49 : xe_code 99 49 = some (.if_icmp .ge 39, [88]) := by decide +kernel
theorem kc_99_52 : xe_code 99 52 = some (.aload_n 0, []) := by decide +kernel
theorem kc_99_53 : xe_code 99 53 = some (.getfield 9, [8, 1, 100]) := by decide +kernel
theorem kc_99_56 : xe_code 99 56 = some (.iload 5, []) := by decide +kernel
theorem kc_99_58 : xe_code 99 58 = some (.iaload, []) := by decide +kernel
theorem kc_99_59 : xe_code 99 59 = some (.bipush 99, []) := by decide +kernel
theorem kc_99_61 : xe_code 99 61 = some (.if_icmp .eq 12, [73]) := by decide +kernel
theorem kc_99_64 : xe_code 99 64 = some (.aload_n 0, []) := by decide +kernel
theorem kc_99_65 : xe_code 99 65 = some (.getfield 9, [8, 1, 100]) := by decide +kernel
theorem kc_99_68 : xe_code 99 68 = some (.iload 5, []) := by decide +kernel
theorem kc_99_70 : xe_code 99 70 = some (.iaload, []) := by decide +kernel
theorem kc_99_71 : xe_code 99 71 = some (.istore 4, []) := by decide +kernel
theorem kc_99_73 : xe_code 99 73 = some (.aload_n 0, []) := by decide +kernel
theorem kc_99_74 : xe_code 99 74 = some (.getfield 15, [8, 2, 101]) := by decide +kernel
theorem kc_99_77 : xe_code 99 77 = some (.iload 5, []) := by decide +kernel
theorem kc_99_79 : xe_code 99 79 = some (.iload 4, []) := by decide +kernel
theorem kc_99_81 : xe_code 99 81 = some (.iastore, []) := by decide +kernel
theorem kc_99_82 : xe_code 99 82 = some (.iinc 5 1, []) := by decide +kernel
theorem kc_99_85 : xe_code 99 85 = some (.goto (-43), [42]) := by decide +kernel
theorem kc_99_88 : xe_code 99 88 = some (.iload_n 3, []) := by decide +kernel
theorem kc_99_89 : xe_code 99 89 = some (.ireturn, []) := by decide +kernel
theorem kc_100_0 : xe_code 100 0 = some (.iload_n 1, []) := by decide +kernel
theorem kc_100_1 : xe_code 100 1 = some (.ifCond .lt 12, [13]) := by decide +kernel
theorem kc_100_4 : xe_code 100 4 = some (.iload_n 1, []) := by decide +kernel
theorem kc_100_5 : xe_code 100 5 = some (.aload_n 0, []) := by decide +kernel
theorem kc_100_6 : xe_code 100 6 = some (.getfield 15, [8, 2, 101]) := by decide +kernel
theorem kc_100_9 : xe_code 100 9 = some (.arraylength, []) := by decide +kernel
theorem kc_100_10 : xe_code 100 10 = some (.if_icmp .lt 10, [20]) := by decide +kernel
theorem kc_100_13 : xe_code 100 13 = some (.aload_n 0, []) := by decide +kernel
theorem kc_100_14 : xe_code 100 14 = some (.getfield 18, [8, 0, 99]) := by decide +kernel
theorem kc_100_17 : xe_code 100 17 = some (.goto 9, [26]) := by decide +kernel
theorem kc_100_20 : xe_code 100 20 = some (.aload_n 0, []) := by decide +kernel
theorem kc_100_21 : xe_code 100 21 = some (.getfield 15, [8, 2, 101]) := by decide +kernel
theorem kc_100_24 : xe_code 100 24 = some (.iload_n 1, []) := by decide +kernel
theorem kc_100_25 : xe_code 100 25 = some (.iaload, []) := by decide +kernel
theorem kc_100_26 : xe_code 100 26 = some (.ireturn, []) := by decide +kernel
theorem kc_101_0 : xe_code 101 0 = some (.iload_n 2, []) := by decide +kernel
theorem kc_101_1 : xe_code 101 1 = some (.ifCond .eq 15, [16]) := by decide +kernel
theorem kc_101_4 : xe_code 101 4 = some (.iload_n 2, []) := by decide +kernel
theorem kc_101_5 : xe_code 101 5 = some (.iconst 1, []) := by decide +kernel
theorem kc_101_6 : xe_code 101 6 = some (.if_icmp .eq 10, [16]) := by decide +kernel
theorem kc_101_9 : xe_code 101 9 = some (.aload_n 0, []) := by decide +kernel
theorem kc_101_10 : xe_code 101 10 = some (.bipush (-2), []) := by decide +kernel
theorem kc_101_12 : xe_code 101 12 = some (.invokevirtual 100, [97, 1, 436, 0]) := by decide +kernel
theorem kc_101_15 : xe_code 101 15 = some (.ireturn, []) := by decide +kernel
theorem kc_101_16 : xe_code 101 16 = some (.iload_n 1, []) := by decide +kernel
theorem kc_101_17 : xe_code 101 17 = some (.ifCond .ge 10, [27]) := by decide +kernel
theorem kc_101_20 : xe_code 101 20 = some (.aload_n 0, []) := by decide +kernel
theorem kc_101_21 : xe_code 101 21 = some (.bipush (-4), []) := by decide +kernel
theorem kc_101_23 : xe_code 101 23 = some (.invokevirtual 100, [97, 1, 436, 0]) := by decide +kernel
theorem kc_101_26 : xe_code 101 26 = some (.ireturn, []) := by decide +kernel
theorem kc_101_27 : xe_code 101 27 = some (.iload_n 1, []) := by decide +kernel
theorem kc_101_28 : xe_code 101 28 = some (.sipush 600, []) := by decide +kernel
theorem kc_101_31 : xe_code 101 31 = some (.if_icmp .lt 10, [41]) := by decide +kernel
theorem kc_101_34 : xe_code 101 34 = some (.aload_n 0, []) := by decide +kernel
theorem kc_101_35 : xe_code 101 35 = some (.bipush (-6), []) := by decide +kernel
theorem kc_101_37 : xe_code 101 37 = some (.invokevirtual 100, [97, 1, 436, 0]) := by decide +kernel
theorem kc_101_40 : xe_code 101 40 = some (.ireturn, []) := by decide +kernel
theorem kc_101_41 : xe_code 101 41 = some (.aload_n 0, []) := by decide +kernel
theorem kc_101_42 : xe_code 101 42 = some (.getfield 10, [0, 0, 369]) := by decide +kernel
theorem kc_101_45 : xe_code 101 45 = some (.iload_n 2, []) := by decide +kernel
theorem kc_101_46 : xe_code 101 46 = some (.invokevirtual 103, [98, 1, 441, 4]) := by decide +kernel
theorem kc_101_49 : xe_code 101 49 = some (.iload_n 1, []) := by decide +kernel
theorem kc_101_50 : xe_code 101 50 = some (.invokevirtual 113, [100, 1, 457, 8]) := by decide +kernel
theorem kc_101_53 : xe_code 101 53 = some (.ireturn, []) := by decide +kernel
theorem kc_102_0 : xe_code 102 0 = some (.iload_n 1, []) := by decide +kernel
theorem kc_102_1 : xe_code 102 1 = some (.bipush (-20), []) := by decide +kernel
theorem kc_102_3 : xe_code 102 3 = some (.if_icmp .ge 10, [13]) := by decide +kernel
theorem kc_102_6 : xe_code 102 6 = some (.aload_n 0, []) := by decide +kernel
theorem kc_102_7 : xe_code 102 7 = some (.bipush (-4), []) := by decide +kernel
theorem kc_102_9 : xe_code 102 9 = some (.invokevirtual 72, [91, 1, 407, 0]) := by decide +kernel
theorem kc_102_12 : xe_code 102 12 = some (.ireturn, []) := by decide +kernel
theorem kc_102_13 : xe_code 102 13 = some (.iload_n 1, []) := by decide +kernel
theorem kc_102_14 : xe_code 102 14 = some (.bipush 30, []) := by decide +kernel
theorem kc_102_16 : xe_code 102 16 = some (.if_icmp .le 10, [26]) := by decide +kernel
theorem kc_102_19 : xe_code 102 19 = some (.aload_n 0, []) := by decide +kernel
theorem kc_102_20 : xe_code 102 20 = some (.bipush (-6), []) := by decide +kernel
theorem kc_102_22 : xe_code 102 22 = some (.invokevirtual 72, [91, 1, 407, 0]) := by decide +kernel
theorem kc_102_25 : xe_code 102 25 = some (.ireturn, []) := by decide +kernel
theorem kc_102_26 : xe_code 102 26 = some (.iload_n 1, []) := by decide +kernel
theorem kc_102_27 : xe_code 102 27 = some (.invokestatic 116, [103, 1, 462, 4]) := by decide +kernel
theorem kc_102_30 : xe_code 102 30 = some (.ireturn, []) := by decide +kernel
theorem kc_103_0 : xe_code 103 0 = some (.iload_n 0, []) := by decide +kernel
theorem kc_103_1 : xe_code 103 1 = some (.ifCond .lt 16, [17]) := by decide +kernel
theorem kc_103_4 : xe_code 103 4 = some (.iconst 5, []) := by decide +kernel
theorem kc_103_5 : xe_code 103 5 = some (.iload_n 0, []) := by decide +kernel
theorem kc_103_6 : xe_code 103 6 = some (.iconst 2, []) := by decide +kernel
theorem kc_103_7 : xe_code 103 7 = some (.idiv, []) := by decide +kernel
theorem kc_103_8 : xe_code 103 8 = some (.iadd, []) := by decide +kernel
theorem kc_103_9 : xe_code 103 9 = some (.iload_n 0, []) := by decide +kernel
theorem kc_103_10 : xe_code 103 10 = some (.iload_n 0, []) := by decide +kernel
theorem kc_103_11 : xe_code 103 11 = some (.imul, []) := by decide +kernel
theorem kc_103_12 : xe_code 103 12 = some (.bipush 40, []) := by decide +kernel
theorem kc_103_14 : xe_code 103 14 = some (.idiv, []) := by decide +kernel
theorem kc_103_15 : xe_code 103 15 = some (.iadd, []) := by decide +kernel
theorem kc_103_16 : xe_code 103 16 = some (.ireturn, []) := by decide +kernel
theorem kc_103_17 : xe_code 103 17 = some (.iconst 5, []) := by decide +kernel
theorem kc_103_18 : xe_code 103 18 = some (.iload_n 0, []) := by decide +kernel
theorem kc_103_19 : xe_code 103 19 = some (.invokestatic 56, [2, 1, 465, 0]) := by decide +kernel
theorem kc_103_22 : xe_code 103 22 = some (.iconst 5, []) := by decide +kernel
theorem kc_103_23 : xe_code 103 23 = some (.idiv, []) := by decide +kernel
theorem kc_103_24 : xe_code 103 24 = some (.isub, []) := by decide +kernel
theorem kc_103_25 : xe_code 103 25 = some (.istore_n 1, []) := by decide +kernel
theorem kc_103_26 : xe_code 103 26 = some (.iload_n 1, []) := by decide +kernel
theorem kc_103_27 : xe_code 103 27 = some (.iconst 1, []) := by decide +kernel
theorem kc_103_28 : xe_code 103 28 = some (.if_icmp .ge 7, [35]) := by decide +kernel
theorem kc_103_31 : xe_code 103 31 = some (.iconst 1, []) := by decide +kernel
theorem kc_103_32 : xe_code 103 32 = some (.goto 4, [36]) := by decide +kernel
theorem kc_103_35 : xe_code 103 35 = some (.iload_n 1, []) := by decide +kernel
theorem kc_103_36 : xe_code 103 36 = some (.ireturn, []) := by decide +kernel
theorem kc_104_0 : xe_code 104 0 = some (.iload_n 1, []) := by decide +kernel
theorem kc_104_1 : xe_code 104 1 = some (.invokestatic 119, [105, 1, 472, 0]) := by decide +kernel
theorem kc_104_4 : xe_code 104 4 = some (.ifCond .eq 10, [14]) := by decide +kernel
theorem kc_104_7 : xe_code 104 7 = some (.iload_n 2, []) := by decide +kernel
theorem kc_104_8 : xe_code 104 8 = some (.invokestatic 68, [90, 1, 404, 0]) := by decide +kernel
theorem kc_104_11 : xe_code 104 11 = some (.ifCond .ne 9, [20]) := by decide +kernel
theorem kc_104_14 : xe_code 104 14 = some (.aload_n 0, []) := by decide +kernel
theorem kc_104_15 : xe_code 104 15 = some (.iconst (-1), []) := by decide +kernel
theorem kc_104_16 : xe_code 104 16 = some (.invokevirtual 72, [91, 1, 407, 0]) := by decide +kernel
theorem kc_104_19 : xe_code 104 19 = some (.ireturn, []) := by decide +kernel
theorem kc_104_20 : xe_code 104 20 = some (.iload_n 3, []) := by decide +kernel
theorem kc_104_21 : xe_code 104 21 = some (.ifCond .ge 10, [31]) := by decide +kernel
theorem kc_104_24 : xe_code 104 24 = some (.aload_n 0, []) := by decide +kernel
theorem kc_104_25 : xe_code 104 25 = some (.bipush (-4), []) := by decide +kernel
theorem kc_104_27 : xe_code 104 27 = some (.invokevirtual 72, [91, 1, 407, 0]) := by decide +kernel
theorem kc_104_30 : xe_code 104 30 = some (.ireturn, []) := by decide +kernel
theorem kc_104_31 : xe_code 104 31 = some (.iload_n 3, []) := by decide +kernel
theorem kc_104_32 : xe_code 104 32 = some (.bipush 100, []) := by decide +kernel
theorem kc_104_34 : xe_code 104 34 = some (.if_icmp .le 10, [44]) := by decide +kernel
theorem kc_104_37 : xe_code 104 37 = some (.aload_n 0, []) := by decide +kernel
theorem kc_104_38 : xe_code 104 38 = some (.bipush (-6), []) := by decide +kernel
theorem kc_104_40 : xe_code 104 40 = some (.invokevirtual 72, [91, 1, 407, 0]) := by decide +kernel
theorem kc_104_43 : xe_code 104 43 = some (.ireturn, []) := by decide +kernel
theorem kc_104_44 : xe_code 104 44 = some (.aload_n 0, []) := by decide +kernel
theorem kc_104_45 : xe_code 104 45 = some (.getfield 28, [0, 2, 371]) := by decide +kernel
theorem kc_104_48 : xe_code 104 48 = some (.invokevirtual 85, [92, 0, 415, 3]) := by decide +kernel
theorem kc_104_51 : xe_code 104 51 = some (.aload_n 0, []) := by decide +kernel
theorem kc_104_52 : xe_code 104 52 = some (.getfield 10, [0, 0, 369]) := by decide +kernel
theorem kc_104_55 : xe_code 104 55 = some (.getfield 122, [4, 1, 173]) := by decide +kernel
theorem kc_104_58 : xe_code 104 58 = some (.iload_n 1, []) := by decide +kernel
theorem kc_104_59 : xe_code 104 59 = some (.aaload, []) := by decide +kernel
theorem kc_104_60 : xe_code 104 60 = some (.astore 5, []) := by decide +kernel
theorem kc_104_62 : xe_code 104 62 = some (.aload 5, []) := by decide +kernel
theorem kc_104_64 : xe_code 104 64 = some (.invokevirtual 126, [106, 0, 475, 11]) := by decide +kernel
theorem kc_104_67 : xe_code 104 67 = some (.ifCond .eq 7, [74]) := by decide +kernel
theorem kc_104_70 : xe_code 104 70 = some (.iconst 0, []) := by decide +kernel
theorem kc_104_71 : xe_code 104 71 = some (.goto 4, [75]) := by decide +kernel
theorem kc_104_74 : xe_code 104 74 = some (.iconst 1, []) := by decide +kernel
theorem kc_104_75 : xe_code 104 75 = some (.istore 6, []) := by decide +kernel
theorem kc_104_77 : xe_code 104 77 = some (.aload 5, []) := by decide +kernel
theorem kc_104_79 : xe_code 104 79 = some (.iload_n 2, []) := by decide +kernel
theorem kc_104_80 : xe_code 104 80 = some (.putfield 132, [11, 0, 132]) := by decide +kernel
theorem kc_104_83 : xe_code 104 83 = some (.aload 5, []) := by decide +kernel
theorem kc_104_85 : xe_code 104 85 = some (.iload_n 3, []) := by decide +kernel
theorem kc_104_86 : xe_code 104 86 = some (.putfield 135, [11, 1, 134]) := by decide +kernel
theorem kc_104_89 : xe_code 104 89 = some (.aload 5, []) := by decide +kernel
theorem kc_104_91 : xe_code 104 91 = some (.iload 4, []) := by decide +kernel
theorem kc_104_93 : xe_code 104 93 = some (.putfield 138, [11, 2, 135]) := by decide +kernel
theorem kc_104_96 : xe_code 104 96 = some (.iload 6, []) := by decide +kernel
theorem kc_104_98 : xe_code 104 98 = some (.ireturn, []) := by decide +kernel
theorem kc_105_0 : xe_code 105 0 = some (.iload_n 0, []) := by decide +kernel
theorem kc_105_1 : xe_code 105 1 = some (.ifCond .lt 13, [14]) := by decide +kernel
theorem kc_105_4 : xe_code 105 4 = some (.iload_n 0, []) := by decide +kernel
theorem kc_105_5 : xe_code 105 5 = some (.bipush 12, []) := by decide +kernel
theorem kc_105_7 : xe_code 105 7 = some (.if_icmp .ge 7, [14]) := by decide +kernel
theorem kc_105_10 : xe_code 105 10 = some (.iconst 1, []) := by decide +kernel
theorem kc_105_11 : xe_code 105 11 = some (.goto 4, [15]) := by decide +kernel
theorem kc_105_14 : xe_code 105 14 = some (.iconst 0, []) := by decide +kernel
theorem kc_105_15 : xe_code 105 15 = some (.ireturn, []) := by decide +kernel
theorem kc_106_0 : xe_code 106 0 = some (.aload_n 0, []) := by decide +kernel
theorem kc_106_1 : xe_code 106 1 = some (.getfield 9, [11, 0, 130]) := by decide +kernel
theorem kc_106_4 : xe_code 106 4 = some (.invokestatic 19, [90, 1, 479, 0]) := by decide +kernel
theorem kc_106_7 : xe_code 106 7 = some (.ireturn, []) := by decide +kernel
theorem kc_107_0 : xe_code 107 0 = some (.iload_n 1, []) := by decide +kernel
theorem kc_107_1 : xe_code 107 1 = some (.invokestatic 119, [105, 1, 472, 0]) := by decide +kernel
theorem kc_107_4 : xe_code 107 4 = some (.ifCond .ne 9, [13]) := by decide +kernel
theorem kc_107_7 : xe_code 107 7 = some (.aload_n 0, []) := by decide +kernel
theorem kc_107_8 : xe_code 107 8 = some (.iconst (-1), []) := by decide +kernel
theorem kc_107_9 : xe_code 107 9 = some (.invokevirtual 72, [91, 1, 407, 0]) := by decide +kernel
theorem kc_107_12 : xe_code 107 12 = some (.ireturn, []) := by decide +kernel
theorem kc_107_13 : xe_code 107 13 = some (.aload_n 0, []) := by decide +kernel
theorem kc_107_14 : xe_code 107 14 = some (.getfield 10, [0, 0, 369]) := by decide +kernel
theorem kc_107_17 : xe_code 107 17 = some (.getfield 122, [4, 1, 173]) := by decide +kernel
theorem kc_107_20 : xe_code 107 20 = some (.iload_n 1, []) := by decide +kernel
theorem kc_107_21 : xe_code 107 21 = some (.aaload, []) := by decide +kernel
theorem kc_107_22 : xe_code 107 22 = some (.astore_n 3, []) := by decide +kernel
theorem kc_107_23 : xe_code 107 23 = some (.iload_n 2, []) := by decide +kernel
theorem kc_107_24 : xe_code 107 24 = some (.tableswitch 91 0 5 #[40, 45, 50, 63, 73, 78], [115, 64, 69, 74, 87, 97, 102]) := by decide +kernel
theorem kc_107_64 : xe_code 107 64 = some (.aload_n 3, []) := by decide +kernel
theorem kc_107_65 : xe_code 107 65 = some (.getfield 132, [11, 0, 132]) := by decide +kernel
theorem kc_107_68 : xe_code 107 68 = some (.ireturn, []) := by decide +kernel
theorem kc_107_69 : xe_code 107 69 = some (.aload_n 3, []) := by decide +kernel
theorem kc_107_70 : xe_code 107 70 = some (.getfield 135, [11, 1, 134]) := by decide +kernel
theorem kc_107_73 : xe_code 107 73 = some (.ireturn, []) := by decide +kernel
theorem kc_107_74 : xe_code 107 74 = some (.aload_n 3, []) := by decide +kernel
theorem kc_107_75 : xe_code 107 75 = some (.getfield 138, [11, 2, 135]) := by decide +kernel
theorem kc_107_78 : xe_code 107 78 = some (.ifCond .eq 7, [85]) := by decide +kernel
theorem kc_107_81 : xe_code 107 81 = some (.iconst 1, []) := by decide +kernel
theorem kc_107_82 : xe_code 107 82 = some (.goto 4, [86]) := by decide +kernel
theorem kc_107_85 : xe_code 107 85 = some (.iconst 0, []) := by decide +kernel
theorem kc_107_86 : xe_code 107 86 = some (.ireturn, []) := by decide +kernel
theorem kc_107_87 : xe_code 107 87 = some (.aload_n 0, []) := by decide +kernel
theorem kc_107_88 : xe_code 107 88 = some (.getfield 19, [0, 1, 370]) := by decide +kernel
theorem kc_107_91 : xe_code 107 91 = some (.getfield 142, [9, 1, 207]) := by decide +kernel
theorem kc_107_94 : xe_code 107 94 = some (.iload_n 1, []) := by decide +kernel
theorem kc_107_95 : xe_code 107 95 = some (.iaload, []) := by decide +kernel
theorem kc_107_96 : xe_code 107 96 = some (.ireturn, []) := by decide +kernel
theorem kc_107_97 : xe_code 107 97 = some (.aload_n 3, []) := by decide +kernel
theorem kc_107_98 : xe_code 107 98 = some (.getfield 145, [11, 3, 137]) := by decide +kernel
theorem kc_107_101 : xe_code 107 101 = some (.ireturn, []) := by decide +kernel
theorem kc_107_102 : xe_code 107 102 = some (.aload_n 0, []) := by decide +kernel
theorem kc_107_103 : xe_code 107 103 = some (.getfield 10, [0, 0, 369]) := by decide +kernel
theorem kc_107_106 : xe_code 107 106 = some (.iload_n 1, []) := by decide +kernel
theorem kc_107_107 : xe_code 107 107 = some (.aload_n 0, []) := by decide +kernel
theorem kc_107_108 : xe_code 107 108 = some (.getfield 148, [0, 9, 378]) := by decide +kernel
theorem kc_107_111 : xe_code 107 111 = some (.invokevirtual 151, [108, 2, 484, 4]) := by decide +kernel
theorem kc_107_114 : xe_code 107 114 = some (.ireturn, []) := by decide +kernel
theorem kc_107_115 : xe_code 107 115 = some (.aload_n 0, []) := by decide +kernel
theorem kc_107_116 : xe_code 107 116 = some (.bipush (-2), []) := by decide +kernel
theorem kc_107_118 : xe_code 107 118 = some (.invokevirtual 72, [91, 1, 407, 0]) := by decide +kernel
theorem kc_107_121 : xe_code 107 121 = some (.ireturn, []) := by decide +kernel
theorem kc_108_0 : xe_code 108 0 = some (.aload_n 0, []) := by decide +kernel
theorem kc_108_1 : xe_code 108 1 = some (.iload_n 1, []) := by decide +kernel
theorem kc_108_2 : xe_code 108 2 = some (.invokevirtual 72, [109, 1, 488, 4]) := by decide +kernel
theorem kc_108_5 : xe_code 108 5 = some (.ifCond .ne 5, [10]) := by decide +kernel
theorem kc_108_8 : xe_code 108 8 = some (.iconst 0, []) := by decide +kernel
theorem kc_108_9 : xe_code 108 9 = some (.ireturn, []) := by decide +kernel
theorem kc_108_10 : xe_code 108 10 = some (.aload_n 0, []) := by decide +kernel
theorem kc_108_11 : xe_code 108 11 = some (.getfield 11, [4, 0, 170]) := by decide +kernel
theorem kc_108_14 : xe_code 108 14 = some (.aload_n 0, []) := by decide +kernel
theorem kc_108_15 : xe_code 108 15 = some (.getfield 19, [4, 1, 172]) := by decide +kernel
theorem kc_108_18 : xe_code 108 18 = some (.iload_n 1, []) := by decide +kernel
theorem kc_108_19 : xe_code 108 19 = some (.aaload, []) := by decide +kernel
theorem kc_108_20 : xe_code 108 20 = some (.getfield 69, [11, 0, 131]) := by decide +kernel
theorem kc_108_23 : xe_code 108 23 = some (.aaload, []) := by decide +kernel
theorem kc_108_24 : xe_code 108 24 = some (.getfield 94, [7, 0, 116]) := by decide +kernel
theorem kc_108_27 : xe_code 108 27 = some (.iconst 1, []) := by decide +kernel
theorem kc_108_28 : xe_code 108 28 = some (.iaload, []) := by decide +kernel
theorem kc_108_29 : xe_code 108 29 = some (.istore_n 3, []) := by decide +kernel
theorem kc_108_30 : xe_code 108 30 = some (.aload_n 0, []) := by decide +kernel
theorem kc_108_31 : xe_code 108 31 = some (.getfield 19, [4, 1, 172]) := by decide +kernel
theorem kc_108_34 : xe_code 108 34 = some (.iload_n 1, []) := by decide +kernel
theorem kc_108_35 : xe_code 108 35 = some (.aaload, []) := by decide +kernel
theorem kc_108_36 : xe_code 108 36 = some (.iload_n 3, []) := by decide +kernel
theorem kc_108_37 : xe_code 108 37 = some (.aload_n 0, []) := by decide +kernel
theorem kc_108_38 : xe_code 108 38 = some (.getfield 34, [4, 3, 175]) := by decide +kernel
theorem kc_108_41 : xe_code 108 41 = some (.iload_n 2, []) := by decide +kernel
theorem kc_108_42 : xe_code 108 42 = some (.invokevirtual 98, [100, 1, 494, 8]) := by decide +kernel
theorem kc_108_45 : xe_code 108 45 = some (.isub, []) := by decide +kernel
theorem kc_108_46 : xe_code 108 46 = some (.invokevirtual 100, [110, 1, 495, 11]) := by decide +kernel
theorem kc_108_49 : xe_code 108 49 = some (.ireturn, []) := by decide +kernel
theorem kc_109_0 : xe_code 109 0 = some (.iload_n 1, []) := by decide +kernel
theorem kc_109_1 : xe_code 109 1 = some (.invokestatic 62, [105, 1, 492, 0]) := by decide +kernel
theorem kc_109_4 : xe_code 109 4 = some (.ifCond .eq 19, [23]) := by decide +kernel
theorem kc_109_7 : xe_code 109 7 = some (.aload_n 0, []) := by decide +kernel
theorem kc_109_8 : xe_code 109 8 = some (.getfield 19, [4, 1, 172]) := by decide +kernel
theorem kc_109_11 : xe_code 109 11 = some (.iload_n 1, []) := by decide +kernel
theorem kc_109_12 : xe_code 109 12 = some (.aaload, []) := by decide +kernel
theorem kc_109_13 : xe_code 109 13 = some (.invokevirtual 65, [106, 0, 493, 11]) := by decide +kernel
theorem kc_109_16 : xe_code 109 16 = some (.ifCond .eq 7, [23]) := by decide +kernel
theorem kc_109_19 : xe_code 109 19 = some (.iconst 1, []) := by decide +kernel
theorem kc_109_20 : xe_code 109 20 = some (.goto 4, [24]) := by decide +kernel
theorem kc_109_23 : xe_code 109 23 = some (.iconst 0, []) := by decide +kernel
theorem kc_109_24 : xe_code 109 24 = some (.ireturn, []) := by decide +kernel
theorem kc_110_0 : xe_code 110 0 = some (.iload_n 1, []) := by decide +kernel
theorem kc_110_1 : xe_code 110 1 = some (.aload_n 0, []) := by decide +kernel
theorem kc_110_2 : xe_code 110 2 = some (.getfield 23, [11, 1, 133]) := by decide +kernel
theorem kc_110_5 : xe_code 110 5 = some (.imul, []) := by decide +kernel
theorem kc_110_6 : xe_code 110 6 = some (.bipush 100, []) := by decide +kernel
theorem kc_110_8 : xe_code 110 8 = some (.idiv, []) := by decide +kernel
theorem kc_110_9 : xe_code 110 9 = some (.istore_n 2, []) := by decide +kernel
theorem kc_110_10 : xe_code 110 10 = some (.iload_n 2, []) := by decide +kernel
theorem kc_110_11 : xe_code 110 11 = some (.ifCond .ge 7, [18]) := by decide +kernel
theorem kc_110_14 : xe_code 110 14 = some (.iconst 0, []) := by decide +kernel
theorem kc_110_15 : xe_code 110 15 = some (.goto 4, [19]) := by decide +kernel
theorem kc_110_18 : xe_code 110 18 = some (.iload_n 2, []) := by decide +kernel
theorem kc_110_19 : xe_code 110 19 = some (.ireturn, []) := by decide +kernel
theorem kc_111_0 : xe_code 111 0 = some (.iload_n 1, []) := by decide +kernel
theorem kc_111_1 : xe_code 111 1 = some (.iconst 1, []) := by decide +kernel
theorem kc_111_2 : xe_code 111 2 = some (.if_icmp .ge 10, [12]) := by decide +kernel
theorem kc_111_5 : xe_code 111 5 = some (.aload_n 0, []) := by decide +kernel
theorem kc_111_6 : xe_code 111 6 = some (.bipush (-4), []) := by decide +kernel
theorem kc_111_8 : xe_code 111 8 = some (.invokevirtual 72, [91, 1, 407, 0]) := by decide +kernel
theorem kc_111_11 : xe_code 111 11 = some (.ireturn, []) := by decide +kernel
theorem kc_111_12 : xe_code 111 12 = some (.iload_n 1, []) := by decide +kernel
theorem kc_111_13 : xe_code 111 13 = some (.bipush 50, []) := by decide +kernel
theorem kc_111_15 : xe_code 111 15 = some (.if_icmp .le 10, [25]) := by decide +kernel
theorem kc_111_18 : xe_code 111 18 = some (.aload_n 0, []) := by decide +kernel
theorem kc_111_19 : xe_code 111 19 = some (.bipush (-6), []) := by decide +kernel
theorem kc_111_21 : xe_code 111 21 = some (.invokevirtual 72, [91, 1, 407, 0]) := by decide +kernel
theorem kc_111_24 : xe_code 111 24 = some (.ireturn, []) := by decide +kernel
theorem kc_111_25 : xe_code 111 25 = some (.aload_n 0, []) := by decide +kernel
theorem kc_111_26 : xe_code 111 26 = some (.getfield 28, [0, 2, 371]) := by decide +kernel
theorem kc_111_29 : xe_code 111 29 = some (.invokevirtual 85, [92, 0, 415, 3]) := by decide +kernel
theorem kc_111_32 : xe_code 111 32 = some (.aload_n 0, []) := by decide +kernel
theorem kc_111_33 : xe_code 111 33 = some (.getfield 10, [0, 0, 369]) := by decide +kernel
theorem kc_111_36 : xe_code 111 36 = some (.getfield 154, [4, 6, 180]) := by decide +kernel
theorem kc_111_39 : xe_code 111 39 = some (.istore_n 2, []) := by decide +kernel
theorem kc_111_40 : xe_code 111 40 = some (.aload_n 0, []) := by decide +kernel
theorem kc_111_41 : xe_code 111 41 = some (.getfield 10, [0, 0, 369]) := by decide +kernel
theorem kc_111_44 : xe_code 111 44 = some (.iload_n 1, []) := by decide +kernel
theorem kc_111_45 : xe_code 111 45 = some (.putfield 154, [4, 6, 180]) := by decide +kernel
theorem kc_111_48 : xe_code 111 48 = some (.iload_n 2, []) := by decide +kernel
theorem kc_111_49 : xe_code 111 49 = some (.ireturn, []) := by decide +kernel
theorem kc_112_0 : xe_code 112 0 = some (.iload_n 1, []) := by decide +kernel
theorem kc_112_1 : xe_code 112 1 = some (.invokestatic 119, [105, 1, 472, 0]) := by decide +kernel
theorem kc_112_4 : xe_code 112 4 = some (.ifCond .ne 9, [13]) := by decide +kernel
theorem kc_112_7 : xe_code 112 7 = some (.aload_n 0, []) := by decide +kernel
theorem kc_112_8 : xe_code 112 8 = some (.iconst (-1), []) := by decide +kernel
theorem kc_112_9 : xe_code 112 9 = some (.invokevirtual 72, [91, 1, 407, 0]) := by decide +kernel
theorem kc_112_12 : xe_code 112 12 = some (.ireturn, []) := by decide +kernel
theorem kc_112_13 : xe_code 112 13 = some (.aload_n 0, []) := by decide +kernel
theorem kc_112_14 : xe_code 112 14 = some (.getfield 10, [0, 0, 369]) := by decide +kernel
theorem kc_112_17 : xe_code 112 17 = some (.getfield 122, [4, 1, 173]) := by decide +kernel
theorem kc_112_20 : xe_code 112 20 = some (.iload_n 1, []) := by decide +kernel
theorem kc_112_21 : xe_code 112 21 = some (.aaload, []) := by decide +kernel
theorem kc_112_22 : xe_code 112 22 = some (.getfield 145, [11, 3, 137]) := by decide +kernel
theorem kc_112_25 : xe_code 112 25 = some (.istore_n 2, []) := by decide +kernel
theorem kc_112_26 : xe_code 112 26 = some (.aload_n 0, []) := by decide +kernel
theorem kc_112_27 : xe_code 112 27 = some (.getfield 10, [0, 0, 369]) := by decide +kernel
theorem kc_112_30 : xe_code 112 30 = some (.getfield 122, [4, 1, 173]) := by decide +kernel
theorem kc_112_33 : xe_code 112 33 = some (.iload_n 1, []) := by decide +kernel
theorem kc_112_34 : xe_code 112 34 = some (.aaload, []) := by decide +kernel
theorem kc_112_35 : xe_code 112 35 = some (.iconst 0, []) := by decide +kernel
theorem kc_112_36 : xe_code 112 36 = some (.putfield 145, [11, 3, 137]) := by decide +kernel
theorem kc_112_39 : xe_code 112 39 = some (.iload_n 2, []) := by decide +kernel
theorem kc_112_40 : xe_code 112 40 = some (.ireturn, []) := by decide +kernel
theorem kc_113_0 : xe_code 113 0 = some (.iload_n 1, []) := by decide +kernel
theorem kc_113_1 : xe_code 113 1 = some (.invokestatic 68, [90, 1, 404, 0]) := by decide +kernel
theorem kc_113_4 : xe_code 113 4 = some (.ifCond .eq 15, [19]) := by decide +kernel
theorem kc_113_7 : xe_code 113 7 = some (.aload_n 0, []) := by decide +kernel
theorem kc_113_8 : xe_code 113 8 = some (.getfield 19, [0, 1, 370]) := by decide +kernel
theorem kc_113_11 : xe_code 113 11 = some (.getfield 82, [9, 0, 203]) := by decide +kernel
theorem kc_113_14 : xe_code 113 14 = some (.iload_n 1, []) := by decide +kernel
theorem kc_113_15 : xe_code 113 15 = some (.iaload, []) := by decide +kernel
theorem kc_113_16 : xe_code 113 16 = some (.goto 8, [24]) := by decide +kernel
theorem kc_113_19 : xe_code 113 19 = some (.aload_n 0, []) := by decide +kernel
theorem kc_113_20 : xe_code 113 20 = some (.iconst (-1), []) := by decide +kernel
theorem kc_113_21 : xe_code 113 21 = some (.invokevirtual 72, [91, 1, 407, 0]) := by decide +kernel
theorem kc_113_24 : xe_code 113 24 = some (.ireturn, []) := by decide +kernel
theorem kc_114_0 : xe_code 114 0 = some (.aload_n 0, []) := by decide +kernel
theorem kc_114_1 : xe_code 114 1 = some (.getfield 10, [0, 0, 369]) := by decide +kernel
theorem kc_114_4 : xe_code 114 4 = some (.iload_n 1, []) := by decide +kernel
theorem kc_114_5 : xe_code 114 5 = some (.invokevirtual 157, [109, 1, 515, 4]) := by decide +kernel
theorem kc_114_8 : xe_code 114 8 = some (.ifCond .ne 9, [17]) := by decide +kernel
theorem kc_114_11 : xe_code 114 11 = some (.aload_n 0, []) := by decide +kernel
theorem kc_114_12 : xe_code 114 12 = some (.iconst (-1), []) := by decide +kernel
theorem kc_114_13 : xe_code 114 13 = some (.invokevirtual 72, [91, 1, 407, 0]) := by decide +kernel
theorem kc_114_16 : xe_code 114 16 = some (.ireturn, []) := by decide +kernel
theorem kc_114_17 : xe_code 114 17 = some (.iload_n 2, []) := by decide +kernel
theorem kc_114_18 : xe_code 114 18 = some (.aload_n 0, []) := by decide +kernel
theorem kc_114_19 : xe_code 114 19 = some (.getfield 148, [0, 9, 378]) := by decide +kernel
theorem kc_114_22 : xe_code 114 22 = some (.if_icmp .gt 14, [36]) := by decide +kernel
theorem kc_114_25 : xe_code 114 25 = some (.aload_n 0, []) := by decide +kernel
theorem kc_114_26 : xe_code 114 26 = some (.getfield 28, [0, 2, 371]) := by decide +kernel
theorem kc_114_29 : xe_code 114 29 = some (.iload_n 2, []) := by decide +kernel
theorem kc_114_30 : xe_code 114 30 = some (.invokevirtual 160, [115, 1, 516, 3]) := by decide +kernel
theorem kc_114_33 : xe_code 114 33 = some (.ifCond .eq 10, [43]) := by decide +kernel
theorem kc_114_36 : xe_code 114 36 = some (.aload_n 0, []) := by decide +kernel
theorem kc_114_37 : xe_code 114 37 = some (.bipush (-3), []) := by decide +kernel
theorem kc_114_39 : xe_code 114 39 = some (.invokevirtual 72, [91, 1, 407, 0]) := by decide +kernel
theorem kc_114_42 : xe_code 114 42 = some (.ireturn, []) := by decide +kernel
theorem kc_114_43 : xe_code 114 43 = some (.iload_n 2, []) := by decide +kernel
theorem kc_114_44 : xe_code 114 44 = some (.ifCond .lt 12, [56]) := by decide +kernel
theorem kc_114_47 : xe_code 114 47 = some (.iload_n 3, []) := by decide +kernel
theorem kc_114_48 : xe_code 114 48 = some (.ifCond .lt 8, [56]) := by decide +kernel
theorem kc_114_51 : xe_code 114 51 = some (.iload 4, []) := by decide +kernel
theorem kc_114_53 : xe_code 114 53 = some (.ifCond .ge 10, [63]) := by decide +kernel
theorem kc_114_56 : xe_code 114 56 = some (.aload_n 0, []) := by decide +kernel
theorem kc_114_57 : xe_code 114 57 = some (.bipush (-4), []) := by decide +kernel
theorem kc_114_59 : xe_code 114 59 = some (.invokevirtual 72, [91, 1, 407, 0]) := by decide +kernel
theorem kc_114_62 : xe_code 114 62 = some (.ireturn, []) := by decide +kernel
theorem kc_114_63 : xe_code 114 63 = some (.iload_n 3, []) := by decide +kernel
theorem kc_114_64 : xe_code 114 64 = some (.ldc 163, [99999, 520]) := by decide +kernel
theorem kc_114_66 : xe_code 114 66 = some (.if_icmp .gt 23, [89]) := by decide +kernel
theorem kc_114_69 : xe_code 114 69 = some (.iload 4, []) := by decide +kernel
theorem kc_114_71 : xe_code 114 71 = some (.sipush 999, []) := by decide +kernel
theorem kc_114_74 : xe_code 114 74 = some (.if_icmp .gt 15, [89]) := by decide +kernel
theorem kc_114_77 : xe_code 114 77 = some (.aload_n 0, []) := by decide +kernel
theorem kc_114_78 : xe_code 114 78 = some (.getfield 28, [0, 2, 371]) := by decide +kernel
theorem kc_114_81 : xe_code 114 81 = some (.getfield 164, [3, 8, 241]) := by decide +kernel
theorem kc_114_84 : xe_code 114 84 = some (.bipush 60, []) := by decide +kernel
theorem kc_114_86 : xe_code 114 86 = some (.if_icmp .lt 10, [96]) := by decide +kernel
theorem kc_114_89 : xe_code 114 89 = some (.aload_n 0, []) := by decide +kernel
theorem kc_114_90 : xe_code 114 90 = some (.bipush (-6), []) := by decide +kernel
theorem kc_114_92 : xe_code 114 92 = some (.invokevirtual 72, [91, 1, 407, 0]) := by decide +kernel
theorem kc_114_95 : xe_code 114 95 = some (.ireturn, []) := by decide +kernel
theorem kc_114_96 : xe_code 114 96 = some (.aload_n 0, []) := by decide +kernel
theorem kc_114_97 : xe_code 114 97 = some (.getfield 28, [0, 2, 371]) := by decide +kernel
theorem kc_114_100 : xe_code 114 100 = some (.invokevirtual 85, [92, 0, 415, 3]) := by decide +kernel
theorem kc_114_103 : xe_code 114 103 = some (.aload_n 0, []) := by decide +kernel
theorem kc_114_104 : xe_code 114 104 = some (.getfield 28, [0, 2, 371]) := by decide +kernel
theorem kc_114_107 : xe_code 114 107 = some (.iload_n 1, []) := by decide +kernel
theorem kc_114_108 : xe_code 114 108 = some (.iload_n 2, []) := by decide +kernel
theorem kc_114_109 : xe_code 114 109 = some (.iload_n 3, []) := by decide +kernel
theorem kc_114_110 : xe_code 114 110 = some (.iload 4, []) := by decide +kernel
theorem kc_114_112 : xe_code 114 112 = some (.isub, []) := by decide +kernel
theorem kc_114_113 : xe_code 114 113 = some (.iload_n 3, []) := by decide +kernel
theorem kc_114_114 : xe_code 114 114 = some (.iload 4, []) := by decide +kernel
theorem kc_114_116 : xe_code 114 116 = some (.iadd, []) := by decide +kernel
theorem kc_114_117 : xe_code 114 117 = some (.invokevirtual 167, [116, 4, 521, 3]) := by decide +kernel
theorem kc_114_120 : xe_code 114 120 = some (.ireturn, []) := by decide +kernel
theorem kc_115_0 : xe_code 115 0 = some (.aload_n 0, []) := by decide +kernel
theorem kc_115_1 : xe_code 115 1 = some (.getfield 43, [3, 8, 240]) := by decide +kernel
theorem kc_115_4 : xe_code 115 4 = some (.ifCond .le 31, [35]) := by decide +kernel
theorem kc_115_7 : xe_code 115 7 = some (.aload_n 0, []) := by decide +kernel
theorem kc_115_8 : xe_code 115 8 = some (.getfield 43, [3, 8, 240]) := by decide +kernel
theorem kc_115_11 : xe_code 115 11 = some (.bipush 60, []) := by decide +kernel
theorem kc_115_13 : xe_code 115 13 = some (.if_icmp .gt 22, [35]) := by decide +kernel
theorem kc_115_16 : xe_code 115 16 = some (.iload_n 1, []) := by decide +kernel
theorem kc_115_17 : xe_code 115 17 = some (.aload_n 0, []) := by decide +kernel
theorem kc_115_18 : xe_code 115 18 = some (.getfield 22, [3, 3, 235]) := by decide +kernel
theorem kc_115_21 : xe_code 115 21 = some (.aload_n 0, []) := by decide +kernel
theorem kc_115_22 : xe_code 115 22 = some (.getfield 43, [3, 8, 240]) := by decide +kernel
theorem kc_115_25 : xe_code 115 25 = some (.iconst 1, []) := by decide +kernel
theorem kc_115_26 : xe_code 115 26 = some (.isub, []) := by decide +kernel
theorem kc_115_27 : xe_code 115 27 = some (.iaload, []) := by decide +kernel
theorem kc_115_28 : xe_code 115 28 = some (.if_icmp .ge 7, [35]) := by decide +kernel
theorem kc_115_31 : xe_code 115 31 = some (.iconst 1, []) := by decide +kernel
theorem kc_115_32 : xe_code 115 32 = some (.goto 4, [36]) := by decide +kernel
theorem kc_115_35 : xe_code 115 35 = some (.iconst 0, []) := by decide +kernel
theorem kc_115_36 : xe_code 115 36 = some (.ireturn, []) := by decide +kernel
theorem kc_116_0 : xe_code 116 0 = some (.aload_n 0, []) := by decide +kernel
theorem kc_116_1 : xe_code 116 1 = some (.getfield 43, [3, 8, 240]) := by decide +kernel
theorem kc_116_4 : xe_code 116 4 = some (.bipush 60, []) := by decide +kernel
theorem kc_116_6 : xe_code 116 6 = some (.if_icmp .lt 6, [12]) := by decide +kernel
theorem kc_116_9 : xe_code 116 9 = some (.bipush (-9), []) := by decide +kernel
theorem kc_116_11 : xe_code 116 11 = some (.ireturn, []) := by decide +kernel
theorem kc_116_12 : xe_code 116 12 = some (.aload_n 0, []) := by decide +kernel
theorem kc_116_13 : xe_code 116 13 = some (.getfield 18, [3, 2, 234]) := by decide +kernel
theorem kc_116_16 : xe_code 116 16 = some (.aload_n 0, []) := by decide +kernel
theorem kc_116_17 : xe_code 116 17 = some (.getfield 43, [3, 8, 240]) := by decide +kernel
theorem kc_116_20 : xe_code 116 20 = some (.iload_n 1, []) := by decide +kernel
theorem kc_116_21 : xe_code 116 21 = some (.iastore, []) := by decide +kernel
theorem kc_116_22 : xe_code 116 22 = some (.aload_n 0, []) := by decide +kernel
theorem kc_116_23 : xe_code 116 23 = some (.getfield 22, [3, 3, 235]) := by decide +kernel
theorem kc_116_26 : xe_code 116 26 = some (.aload_n 0, []) := by decide +kernel
theorem kc_116_27 : xe_code 116 27 = some (.getfield 43, [3, 8, 240]) := by decide +kernel
theorem kc_116_30 : xe_code 116 30 = some (.iload_n 2, []) := by decide +kernel
theorem kc_116_31 : xe_code 116 31 = some (.iastore, []) := by decide +kernel
theorem kc_116_32 : xe_code 116 32 = some (.aload_n 0, []) := by decide +kernel
theorem kc_116_33 : xe_code 116 33 = some (.getfield 25, [3, 4, 236]) := by decide +kernel
theorem kc_116_36 : xe_code 116 36 = some (.aload_n 0, []) := by decide +kernel
theorem kc_116_37 : xe_code 116 37 = some (.getfield 43, [3, 8, 240]) := by decide +kernel
theorem kc_116_40 : xe_code 116 40 = some (.iload_n 3, []) := by decide +kernel
theorem kc_116_41 : xe_code 116 41 = some (.iastore, []) := by decide +kernel
theorem kc_116_42 : xe_code 116 42 = some (.aload_n 0, []) := by decide +kernel
theorem kc_116_43 : xe_code 116 43 = some (.getfield 28, [3, 5, 237]) := by decide +kernel
theorem kc_116_46 : xe_code 116 46 = some (.aload_n 0, []) := by decide +kernel
theorem kc_116_47 : xe_code 116 47 = some (.getfield 43, [3, 8, 240]) := by decide +kernel
theorem kc_116_50 : xe_code 116 50 = some (.iload 4, []) := by decide +kernel
theorem kc_116_52 : xe_code 116 52 = some (.iastore, []) := by decide +kernel
theorem kc_116_53 : xe_code 116 53 = some (.aload_n 0, []) := by decide +kernel
theorem kc_116_54 : xe_code 116 54 = some (.dup, []) := by decide +kernel
theorem kc_116_55 : xe_code 116 55 = some (.getfield 43, [3, 8, 240]) := by decide +kernel
theorem kc_116_58 : xe_code 116 58 = some (.iconst 1, []) := by decide +kernel
theorem kc_116_59 : xe_code 116 59 = some (.iadd, []) := by decide +kernel
theorem kc_116_60 : xe_code 116 60 = some (.putfield 43, [3, 8, 240]) := by decide +kernel
theorem kc_116_63 : xe_code 116 63 = some (.aload_n 0, []) := by decide +kernel
theorem kc_116_64 : xe_code 116 64 = some (.getfield 43, [3, 8, 240]) := by decide +kernel
theorem kc_116_67 : xe_code 116 67 = some (.iconst 1, []) := by decide +kernel
theorem kc_116_68 : xe_code 116 68 = some (.isub, []) := by decide +kernel
theorem kc_116_69 : xe_code 116 69 = some (.ireturn, []) := by decide +kernel
theorem kc_117_0 : xe_code 117 0 = some (.iload_n 1, []) := by decide +kernel
theorem kc_117_1 : xe_code 117 1 = some (.invokestatic 171, [118, 1, 529, 0]) := by decide +kernel
theorem kc_117_4 : xe_code 117 4 = some (.ifCond .ne 10, [14]) := by decide +kernel
theorem kc_117_7 : xe_code 117 7 = some (.aload_n 0, []) := by decide +kernel
theorem kc_117_8 : xe_code 117 8 = some (.bipush (-2), []) := by decide +kernel
theorem kc_117_10 : xe_code 117 10 = some (.invokevirtual 72, [91, 1, 407, 0]) := by decide +kernel
theorem kc_117_13 : xe_code 117 13 = some (.ireturn, []) := by decide +kernel
theorem kc_117_14 : xe_code 117 14 = some (.aload_n 0, []) := by decide +kernel
theorem kc_117_15 : xe_code 117 15 = some (.getfield 10, [0, 0, 369]) := by decide +kernel
theorem kc_117_18 : xe_code 117 18 = some (.iload_n 1, []) := by decide +kernel
theorem kc_117_19 : xe_code 117 19 = some (.iload_n 2, []) := by decide +kernel
theorem kc_117_20 : xe_code 117 20 = some (.invokevirtual 174, [119, 2, 532, 4]) := by decide +kernel
theorem kc_117_23 : xe_code 117 23 = some (.ifCond .ne 9, [32]) := by decide +kernel
theorem kc_117_26 : xe_code 117 26 = some (.aload_n 0, []) := by decide +kernel
theorem kc_117_27 : xe_code 117 27 = some (.iconst (-1), []) := by decide +kernel
theorem kc_117_28 : xe_code 117 28 = some (.invokevirtual 72, [91, 1, 407, 0]) := by decide +kernel
theorem kc_117_31 : xe_code 117 31 = some (.ireturn, []) := by decide +kernel
theorem kc_117_32 : xe_code 117 32 = some (.iload_n 3, []) := by decide +kernel
theorem kc_117_33 : xe_code 117 33 = some (.iconst 1, []) := by decide +kernel
theorem kc_117_34 : xe_code 117 34 = some (.if_icmp .lt 8, [42]) := by decide +kernel
theorem kc_117_37 : xe_code 117 37 = some (.iload 4, []) := by decide +kernel
theorem kc_117_39 : xe_code 117 39 = some (.ifCond .ge 10, [49]) := by decide +kernel
theorem kc_117_42 : xe_code 117 42 = some (.aload_n 0, []) := by decide +kernel
theorem kc_117_43 : xe_code 117 43 = some (.bipush (-4), []) := by decide +kernel
theorem kc_117_45 : xe_code 117 45 = some (.invokevirtual 72, [91, 1, 407, 0]) := by decide +kernel
theorem kc_117_48 : xe_code 117 48 = some (.ireturn, []) := by decide +kernel
theorem kc_117_49 : xe_code 117 49 = some (.iload_n 3, []) := by decide +kernel
theorem kc_117_50 : xe_code 117 50 = some (.bipush 99, []) := by decide +kernel
theorem kc_117_52 : xe_code 117 52 = some (.if_icmp .gt 23, [75]) := by decide +kernel
theorem kc_117_55 : xe_code 117 55 = some (.iload 4, []) := by decide +kernel
theorem kc_117_57 : xe_code 117 57 = some (.sipush 600, []) := by decide +kernel
theorem kc_117_60 : xe_code 117 60 = some (.if_icmp .gt 15, [75]) := by decide +kernel
theorem kc_117_63 : xe_code 117 63 = some (.aload_n 0, []) := by decide +kernel
theorem kc_117_64 : xe_code 117 64 = some (.getfield 10, [0, 0, 369]) := by decide +kernel
theorem kc_117_67 : xe_code 117 67 = some (.getfield 178, [4, 5, 178]) := by decide +kernel
theorem kc_117_70 : xe_code 117 70 = some (.bipush 10, []) := by decide +kernel
theorem kc_117_72 : xe_code 117 72 = some (.if_icmp .lt 10, [82]) := by decide +kernel
theorem kc_117_75 : xe_code 117 75 = some (.aload_n 0, []) := by decide +kernel
theorem kc_117_76 : xe_code 117 76 = some (.bipush (-6), []) := by decide +kernel
theorem kc_117_78 : xe_code 117 78 = some (.invokevirtual 72, [91, 1, 407, 0]) := by decide +kernel
theorem kc_117_81 : xe_code 117 81 = some (.ireturn, []) := by decide +kernel
theorem kc_117_82 : xe_code 117 82 = some (.aload_n 0, []) := by decide +kernel
theorem kc_117_83 : xe_code 117 83 = some (.getfield 10, [0, 0, 369]) := by decide +kernel
theorem kc_117_86 : xe_code 117 86 = some (.iload_n 1, []) := by decide +kernel
theorem kc_117_87 : xe_code 117 87 = some (.iload_n 2, []) := by decide +kernel
theorem kc_117_88 : xe_code 117 88 = some (.iload_n 3, []) := by decide +kernel
theorem kc_117_89 : xe_code 117 89 = some (.iload 4, []) := by decide +kernel
theorem kc_117_91 : xe_code 117 91 = some (.invokevirtual 181, [120, 4, 536, 4]) := by decide +kernel
theorem kc_117_94 : xe_code 117 94 = some (.ireturn, []) := by decide +kernel
theorem kc_118_0 : xe_code 118 0 = some (.iload_n 0, []) := by decide +kernel
theorem kc_118_1 : xe_code 118 1 = some (.ifCond .lt 12, [13]) := by decide +kernel
theorem kc_118_4 : xe_code 118 4 = some (.iload_n 0, []) := by decide +kernel
theorem kc_118_5 : xe_code 118 5 = some (.iconst 4, []) := by decide +kernel
theorem kc_118_6 : xe_code 118 6 = some (.if_icmp .ge 7, [13]) := by decide +kernel
theorem kc_118_9 : xe_code 118 9 = some (.iconst 1, []) := by decide +kernel
theorem kc_118_10 : xe_code 118 10 = some (.goto 4, [14]) := by decide +kernel
theorem kc_118_13 : xe_code 118 13 = some (.iconst 0, []) := by decide +kernel
theorem kc_118_14 : xe_code 118 14 = some (.ireturn, []) := by decide +kernel
theorem kc_119_0 : xe_code 119 0 = some (.iload_n 1, []) := by decide +kernel
theorem kc_119_1 : xe_code 119 1 = some (.iconst 3, []) := by decide +kernel
theorem kc_119_2 : xe_code 119 2 = some (.if_icmp .ne 8, [10]) := by decide +kernel
theorem kc_119_5 : xe_code 119 5 = some (.iload_n 2, []) := by decide +kernel
theorem kc_119_6 : xe_code 119 6 = some (.invokestatic 48, [90, 1, 423, 0]) := by decide +kernel
theorem kc_119_9 : xe_code 119 9 = some (.ireturn, []) := by decide +kernel
theorem kc_119_10 : xe_code 119 10 = some (.aload_n 0, []) := by decide +kernel
theorem kc_119_11 : xe_code 119 11 = some (.iload_n 2, []) := by decide +kernel
theorem kc_119_12 : xe_code 119 12 = some (.invokevirtual 72, [109, 1, 488, 4]) := by decide +kernel
theorem kc_119_15 : xe_code 119 15 = some (.ifCond .eq 23, [38]) := by decide +kernel
theorem kc_119_18 : xe_code 119 18 = some (.iload_n 1, []) := by decide +kernel
theorem kc_119_19 : xe_code 119 19 = some (.ifCond .ne 15, [34]) := by decide +kernel
theorem kc_119_22 : xe_code 119 22 = some (.aload_n 0, []) := by decide +kernel
theorem kc_119_23 : xe_code 119 23 = some (.getfield 19, [4, 1, 172]) := by decide +kernel
theorem kc_119_26 : xe_code 119 26 = some (.iload_n 2, []) := by decide +kernel
theorem kc_119_27 : xe_code 119 27 = some (.aaload, []) := by decide +kernel
theorem kc_119_28 : xe_code 119 28 = some (.getfield 75, [11, 2, 136]) := by decide +kernel
theorem kc_119_31 : xe_code 119 31 = some (.ifCond .eq 7, [38]) := by decide +kernel
theorem kc_119_34 : xe_code 119 34 = some (.iconst 1, []) := by decide +kernel
theorem kc_119_35 : xe_code 119 35 = some (.goto 4, [39]) := by decide +kernel
theorem kc_119_38 : xe_code 119 38 = some (.iconst 0, []) := by decide +kernel
theorem kc_119_39 : xe_code 119 39 = some (.ireturn, []) := by decide +kernel
theorem kc_120_0 : xe_code 120 0 = some (.aload_n 0, []) := by decide +kernel
theorem kc_120_1 : xe_code 120 1 = some (.getfield 79, [4, 5, 177]) := by decide +kernel
theorem kc_120_4 : xe_code 120 4 = some (.bipush 10, []) := by decide +kernel
theorem kc_120_6 : xe_code 120 6 = some (.if_icmp .lt 6, [12]) := by decide +kernel
theorem kc_120_9 : xe_code 120 9 = some (.bipush (-9), []) := by decide +kernel
theorem kc_120_11 : xe_code 120 11 = some (.ireturn, []) := by decide +kernel
theorem kc_120_12 : xe_code 120 12 = some (.aload_n 0, []) := by decide +kernel
theorem kc_120_13 : xe_code 120 13 = some (.getfield 25, [4, 2, 174]) := by decide +kernel
theorem kc_120_16 : xe_code 120 16 = some (.aload_n 0, []) := by decide +kernel
theorem kc_120_17 : xe_code 120 17 = some (.getfield 79, [4, 5, 177]) := by decide +kernel
theorem kc_120_20 : xe_code 120 20 = some (.aaload, []) := by decide +kernel
theorem kc_120_21 : xe_code 120 21 = some (.astore 5, []) := by decide +kernel
theorem kc_120_23 : xe_code 120 23 = some (.aload 5, []) := by decide +kernel
theorem kc_120_25 : xe_code 120 25 = some (.iload_n 1, []) := by decide +kernel
theorem kc_120_26 : xe_code 120 26 = some (.putfield 82, [1, 0, 157]) := by decide +kernel
theorem kc_120_29 : xe_code 120 29 = some (.aload 5, []) := by decide +kernel
theorem kc_120_31 : xe_code 120 31 = some (.iload_n 2, []) := by decide +kernel
theorem kc_120_32 : xe_code 120 32 = some (.putfield 85, [1, 1, 158]) := by decide +kernel
theorem kc_120_35 : xe_code 120 35 = some (.aload 5, []) := by decide +kernel
theorem kc_120_37 : xe_code 120 37 = some (.iload_n 3, []) := by decide +kernel
theorem kc_120_38 : xe_code 120 38 = some (.putfield 88, [1, 2, 159]) := by decide +kernel
theorem kc_120_41 : xe_code 120 41 = some (.aload 5, []) := by decide +kernel
theorem kc_120_43 : xe_code 120 43 = some (.iload 4, []) := by decide +kernel
theorem kc_120_45 : xe_code 120 45 = some (.putfield 91, [1, 3, 160]) := by decide +kernel
theorem kc_120_48 : xe_code 120 48 = some (.aload_n 0, []) := by decide +kernel
theorem kc_120_49 : xe_code 120 49 = some (.dup, []) := by decide +kernel
theorem kc_120_50 : xe_code 120 50 = some (.getfield 79, [4, 5, 177]) := by decide +kernel
theorem kc_120_53 : xe_code 120 53 = some (.iconst 1, []) := by decide +kernel
theorem kc_120_54 : xe_code 120 54 = some (.iadd, []) := by decide +kernel
theorem kc_120_55 : xe_code 120 55 = some (.putfield 79, [4, 5, 177]) := by decide +kernel
theorem kc_120_58 : xe_code 120 58 = some (.aload_n 0, []) := by decide +kernel
theorem kc_120_59 : xe_code 120 59 = some (.getfield 79, [4, 5, 177]) := by decide +kernel
theorem kc_120_62 : xe_code 120 62 = some (.iconst 1, []) := by decide +kernel
theorem kc_120_63 : xe_code 120 63 = some (.isub, []) := by decide +kernel
theorem kc_120_64 : xe_code 120 64 = some (.ireturn, []) := by decide +kernel
theorem kc_121_0 : xe_code 121 0 = some (.iload_n 1, []) := by decide +kernel
theorem kc_121_1 : xe_code 121 1 = some (.ifCond .lt 14, [15]) := by decide +kernel
theorem kc_121_4 : xe_code 121 4 = some (.iload_n 1, []) := by decide +kernel
theorem kc_121_5 : xe_code 121 5 = some (.aload_n 0, []) := by decide +kernel
theorem kc_121_6 : xe_code 121 6 = some (.getfield 10, [0, 0, 369]) := by decide +kernel
theorem kc_121_9 : xe_code 121 9 = some (.getfield 178, [4, 5, 178]) := by decide +kernel
theorem kc_121_12 : xe_code 121 12 = some (.if_icmp .lt 9, [21]) := by decide +kernel
theorem kc_121_15 : xe_code 121 15 = some (.aload_n 0, []) := by decide +kernel
theorem kc_121_16 : xe_code 121 16 = some (.iconst (-1), []) := by decide +kernel
theorem kc_121_17 : xe_code 121 17 = some (.invokevirtual 72, [91, 1, 407, 0]) := by decide +kernel
theorem kc_121_20 : xe_code 121 20 = some (.ireturn, []) := by decide +kernel
theorem kc_121_21 : xe_code 121 21 = some (.iconst 1, []) := by decide +kernel
theorem kc_121_22 : xe_code 121 22 = some (.iload_n 1, []) := by decide +kernel
theorem kc_121_23 : xe_code 121 23 = some (.ishl, []) := by decide +kernel
theorem kc_121_24 : xe_code 121 24 = some (.istore_n 3, []) := by decide +kernel
theorem kc_121_25 : xe_code 121 25 = some (.aload_n 0, []) := by decide +kernel
theorem kc_121_26 : xe_code 121 26 = some (.getfield 19, [0, 1, 370]) := by decide +kernel
theorem kc_121_29 : xe_code 121 29 = some (.getfield 184, [9, 2, 210]) := by decide +kernel
theorem kc_121_32 : xe_code 121 32 = some (.iload_n 3, []) := by decide +kernel
theorem kc_121_33 : xe_code 121 33 = some (.iand, []) := by decide +kernel
theorem kc_121_34 : xe_code 121 34 = some (.ifCond .eq 7, [41]) := by decide +kernel
theorem kc_121_37 : xe_code 121 37 = some (.iconst 1, []) := by decide +kernel
theorem kc_121_38 : xe_code 121 38 = some (.goto 4, [42]) := by decide +kernel
theorem kc_121_41 : xe_code 121 41 = some (.iconst 0, []) := by decide +kernel
theorem kc_121_42 : xe_code 121 42 = some (.istore 4, []) := by decide +kernel
theorem kc_121_44 : xe_code 121 44 = some (.iload 4, []) := by decide +kernel
theorem kc_121_46 : xe_code 121 46 = some (.iload_n 2, []) := by decide +kernel
theorem kc_121_47 : xe_code 121 47 = some (.if_icmp .ne 5, [52]) := by decide +kernel
theorem kc_121_50 : xe_code 121 50 = some (.iconst 0, []) := by decide +kernel
theorem kc_121_51 : xe_code 121 51 = some (.ireturn, []) := by decide +kernel
theorem kc_121_52 : xe_code 121 52 = some (.aload_n 0, []) := by decide +kernel
theorem kc_121_53 : xe_code 121 53 = some (.getfield 19, [0, 1, 370]) := by decide +kernel
theorem kc_121_56 : xe_code 121 56 = some (.dup, []) := by decide +kernel
theorem kc_121_57 : xe_code 121 57 = some (.getfield 184, [9, 2, 210]) := by decide +kernel
theorem kc_121_60 : xe_code 121 60 = some (.iload_n 3, []) := by decide +kernel
theorem kc_121_61 : xe_code 121 61 = some (.ixor, []) := by decide +kernel
theorem kc_121_62 : xe_code 121 62 = some (.putfield 184, [9, 2, 210]) := by decide +kernel
theorem kc_121_65 : xe_code 121 65 = some (.iconst 1, []) := by decide +kernel
theorem kc_121_66 : xe_code 121 66 = some (.ireturn, []) := by decide +kernel
theorem kc_122_0 : xe_code 122 0 = some (.iload_n 1, []) := by decide +kernel
theorem kc_122_1 : xe_code 122 1 = some (.iconst 1, []) := by decide +kernel
theorem kc_122_2 : xe_code 122 2 = some (.if_icmp .ge 10, [12]) := by decide +kernel
theorem kc_122_5 : xe_code 122 5 = some (.aload_n 0, []) := by decide +kernel
theorem kc_122_6 : xe_code 122 6 = some (.bipush (-4), []) := by decide +kernel
theorem kc_122_8 : xe_code 122 8 = some (.invokevirtual 72, [91, 1, 407, 0]) := by decide +kernel
theorem kc_122_11 : xe_code 122 11 = some (.ireturn, []) := by decide +kernel
theorem kc_122_12 : xe_code 122 12 = some (.iload_n 1, []) := by decide +kernel
theorem kc_122_13 : xe_code 122 13 = some (.sipush 600, []) := by decide +kernel
theorem kc_122_16 : xe_code 122 16 = some (.aload_n 0, []) := by decide +kernel
theorem kc_122_17 : xe_code 122 17 = some (.getfield 148, [0, 9, 378]) := by decide +kernel
theorem kc_122_20 : xe_code 122 20 = some (.isub, []) := by decide +kernel
theorem kc_122_21 : xe_code 122 21 = some (.if_icmp .le 10, [31]) := by decide +kernel
theorem kc_122_24 : xe_code 122 24 = some (.aload_n 0, []) := by decide +kernel
theorem kc_122_25 : xe_code 122 25 = some (.bipush (-6), []) := by decide +kernel
theorem kc_122_27 : xe_code 122 27 = some (.invokevirtual 72, [91, 1, 407, 0]) := by decide +kernel
theorem kc_122_30 : xe_code 122 30 = some (.ireturn, []) := by decide +kernel
theorem kc_122_31 : xe_code 122 31 = some (.aload_n 0, []) := by decide +kernel
theorem kc_122_32 : xe_code 122 32 = some (.getfield 28, [0, 2, 371]) := by decide +kernel
theorem kc_122_35 : xe_code 122 35 = some (.invokevirtual 85, [92, 0, 415, 3]) := by decide +kernel
theorem kc_122_38 : xe_code 122 38 = some (.iconst 0, []) := by decide +kernel
theorem kc_122_39 : xe_code 122 39 = some (.istore_n 2, []) := by decide +kernel
theorem kc_122_40 : xe_code 122 40 = some (.iload_n 2, []) := by decide +kernel
theorem kc_122_41 : xe_code 122 41 = some (.iload_n 1, []) := by decide +kernel
theorem kc_122_42 : xe_code 122 42 = some (.if_icmp .ge 13, [55]) := by decide +kernel
theorem kc_122_45 : xe_code 122 45 = some (.aload_n 0, []) := by decide +kernel
theorem kc_122_46 : xe_code 122 46 = some (.invokevirtual 187, [123, 0, 548, 0]) := by decide +kernel
theorem kc_122_49 : xe_code 122 49 = some (.iinc 2 1, []) := by decide +kernel
theorem kc_122_52 : xe_code 122 52 = some (.goto (-12), [40]) := by decide +kernel
theorem kc_122_55 : xe_code 122 55 = some (.aload_n 0, []) := by decide +kernel
theorem kc_122_56 : xe_code 122 56 = some (.getfield 148, [0, 9, 378]) := by decide +kernel
theorem kc_122_59 : xe_code 122 59 = some (.ireturn, []) := by decide +kernel
theorem kc_123_0 : xe_code 123 0 = some (.aload_n 0, []) := by decide +kernel
theorem kc_123_1 : xe_code 123 1 = some (.invokevirtual 318, [124, 0, 552, 0]) := by decide +kernel
theorem kc_123_4 : xe_code 123 4 = some (.aload_n 0, []) := by decide +kernel
theorem kc_123_5 : xe_code 123 5 = some (.getfield 10, [0, 0, 369]) := by decide +kernel
theorem kc_123_8 : xe_code 123 8 = some (.aload_n 0, []) := by decide +kernel
theorem kc_123_9 : xe_code 123 9 = some (.getfield 19, [0, 1, 370]) := by decide +kernel
theorem kc_123_12 : xe_code 123 12 = some (.aload_n 0, []) := by decide +kernel
theorem kc_123_13 : xe_code 123 13 = some (.getfield 148, [0, 9, 378]) := by decide +kernel
theorem kc_123_16 : xe_code 123 16 = some (.invokevirtual 321, [125, 2, 556, 4]) := by decide +kernel
theorem kc_123_19 : xe_code 123 19 = some (.aload_n 0, []) := by decide +kernel
theorem kc_123_20 : xe_code 123 20 = some (.getfield 10, [0, 0, 369]) := by decide +kernel
theorem kc_123_23 : xe_code 123 23 = some (.aload_n 0, []) := by decide +kernel
theorem kc_123_24 : xe_code 123 24 = some (.getfield 19, [0, 1, 370]) := by decide +kernel
theorem kc_123_27 : xe_code 123 27 = some (.aload_n 0, []) := by decide +kernel
theorem kc_123_28 : xe_code 123 28 = some (.getfield 148, [0, 9, 378]) := by decide +kernel
theorem kc_123_31 : xe_code 123 31 = some (.invokevirtual 325, [136, 2, 605, 4]) := by decide +kernel
theorem kc_123_34 : xe_code 123 34 = some (.aload_n 0, []) := by decide +kernel
theorem kc_123_35 : xe_code 123 35 = some (.dup, []) := by decide +kernel
theorem kc_123_36 : xe_code 123 36 = some (.getfield 148, [0, 9, 378]) := by decide +kernel
theorem kc_123_39 : xe_code 123 39 = some (.iconst 1, []) := by decide +kernel
theorem kc_123_40 : xe_code 123 40 = some (.iadd, []) := by decide +kernel
theorem kc_123_41 : xe_code 123 41 = some (.putfield 148, [0, 9, 378]) := by decide +kernel
theorem kc_123_44 : xe_code 123 44 = some (.aload_n 0, []) := by decide +kernel
theorem kc_123_45 : xe_code 123 45 = some (.invokevirtual 328, [137, 0, 609, 0]) := by decide +kernel
theorem kc_123_48 : xe_code 123 48 = some (.return_, []) := by decide +kernel
theorem kc_124_0 : xe_code 124 0 = some (.iconst 0, []) := by decide +kernel
theorem kc_124_1 : xe_code 124 1 = some (.istore_n 1, []) := by decide +kernel
theorem kc_124_2 : xe_code 124 2 = some (.iload_n 1, []) := by decide +kernel
theorem kc_124_3 : xe_code 124 3 = some (.aload_n 0, []) := by decide +kernel
theorem kc_124_4 : xe_code 124 4 = some (.getfield 243, [0, 8, 377]) := by decide +kernel
theorem kc_124_7 : xe_code 124 7 = some (.if_icmp .ge 56, [63]) := by decide +kernel
theorem kc_124_10 : xe_code 124 10 = some (.iload_n 1, []) := by decide +kernel
theorem kc_124_11 : xe_code 124 11 = some (.bipush 20, []) := by decide +kernel
theorem kc_124_13 : xe_code 124 13 = some (.if_icmp .ge 50, [63]) := by decide +kernel
theorem kc_124_16 : xe_code 124 16 = some (.aload_n 0, []) := by decide +kernel
theorem kc_124_17 : xe_code 124 17 = some (.getfield 55, [0, 6, 375]) := by decide +kernel
theorem kc_124_20 : xe_code 124 20 = some (.iload_n 1, []) := by decide +kernel
theorem kc_124_21 : xe_code 124 21 = some (.aaload, []) := by decide +kernel
theorem kc_124_22 : xe_code 124 22 = some (.astore_n 2, []) := by decide +kernel
theorem kc_124_23 : xe_code 124 23 = some (.aload_n 2, []) := by decide +kernel
theorem kc_124_24 : xe_code 124 24 = some (.getfield 253, [10, 3, 353]) := by decide +kernel
theorem kc_124_27 : xe_code 124 27 = some (.aload_n 0, []) := by decide +kernel
theorem kc_124_28 : xe_code 124 28 = some (.getfield 148, [0, 9, 378]) := by decide +kernel
theorem kc_124_31 : xe_code 124 31 = some (.if_icmp .ne 26, [57]) := by decide +kernel
theorem kc_124_34 : xe_code 124 34 = some (.aload_n 2, []) := by decide +kernel
theorem kc_124_35 : xe_code 124 35 = some (.aload_n 0, []) := by decide +kernel
theorem kc_124_36 : xe_code 124 36 = some (.getfield 10, [0, 0, 369]) := by decide +kernel
theorem kc_124_39 : xe_code 124 39 = some (.aload_n 2, []) := by decide +kernel
theorem kc_124_40 : xe_code 124 40 = some (.getfield 246, [10, 0, 350]) := by decide +kernel
theorem kc_124_43 : xe_code 124 43 = some (.aload_n 2, []) := by decide +kernel
theorem kc_124_44 : xe_code 124 44 = some (.getfield 247, [10, 1, 351]) := by decide +kernel
theorem kc_124_47 : xe_code 124 47 = some (.aload_n 2, []) := by decide +kernel
theorem kc_124_48 : xe_code 124 48 = some (.getfield 250, [10, 2, 352]) := by decide +kernel
theorem kc_124_51 : xe_code 124 51 = some (.invokevirtual 88, [93, 3, 419, 4]) := by decide +kernel
theorem kc_124_54 : xe_code 124 54 = some (.putfield 331, [10, 5, 355]) := by decide +kernel
theorem kc_124_57 : xe_code 124 57 = some (.iinc 1 1, []) := by decide +kernel
theorem kc_124_60 : xe_code 124 60 = some (.goto (-58), [2]) := by decide +kernel
theorem kc_124_63 : xe_code 124 63 = some (.return_, []) := by decide +kernel
theorem kc_125_0 : xe_code 125 0 = some (.aload_n 0, []) := by decide +kernel
theorem kc_125_1 : xe_code 125 1 = some (.getfield 34, [4, 3, 175]) := by decide +kernel
theorem kc_125_4 : xe_code 125 4 = some (.iload_n 2, []) := by decide +kernel
theorem kc_125_5 : xe_code 125 5 = some (.invokevirtual 98, [100, 1, 494, 8]) := by decide +kernel
theorem kc_125_8 : xe_code 125 8 = some (.istore_n 3, []) := by decide +kernel
theorem kc_125_9 : xe_code 125 9 = some (.aload_n 0, []) := by decide +kernel
theorem kc_125_10 : xe_code 125 10 = some (.aload_n 1, []) := by decide +kernel
theorem kc_125_11 : xe_code 125 11 = some (.iload_n 2, []) := by decide +kernel
theorem kc_125_12 : xe_code 125 12 = some (.invokevirtual 103, [126, 2, 560, 4]) := by decide +kernel
theorem kc_125_15 : xe_code 125 15 = some (.iconst 0, []) := by decide +kernel
theorem kc_125_16 : xe_code 125 16 = some (.istore 4, []) := by decide +kernel
theorem kc_125_18 : xe_code 125 18 = some (.iload 4, []) := by decide +kernel
theorem kc_125_20 : xe_code 125 20 = some (.bipush 6, []) := by decide +kernel
theorem kc_125_22 : xe_code 125 22 = some (.if_icmp .ge 30, [52]) := by decide +kernel
theorem kc_125_25 : xe_code 125 25 = some (.aload_n 1, []) := by decide +kernel
theorem kc_125_26 : xe_code 125 26 = some (.getfield 107, [9, 3, 214]) := by decide +kernel
theorem kc_125_29 : xe_code 125 29 = some (.iload 4, []) := by decide +kernel
theorem kc_125_31 : xe_code 125 31 = some (.ishr, []) := by decide +kernel
theorem kc_125_32 : xe_code 125 32 = some (.iconst 1, []) := by decide +kernel
theorem kc_125_33 : xe_code 125 33 = some (.iand, []) := by decide +kernel
theorem kc_125_34 : xe_code 125 34 = some (.ifCond .eq 12, [46]) := by decide +kernel
theorem kc_125_37 : xe_code 125 37 = some (.aload_n 0, []) := by decide +kernel
theorem kc_125_38 : xe_code 125 38 = some (.aload_n 1, []) := by decide +kernel
theorem kc_125_39 : xe_code 125 39 = some (.iload 4, []) := by decide +kernel
theorem kc_125_41 : xe_code 125 41 = some (.iload_n 2, []) := by decide +kernel
theorem kc_125_42 : xe_code 125 42 = some (.iload_n 3, []) := by decide +kernel
theorem kc_125_43 : xe_code 125 43 = some (.invokevirtual 111, [129, 4, 573, 4]) := by decide +kernel
theorem kc_125_46 : xe_code 125 46 = some (.iinc 4 1, []) := by decide +kernel
theorem kc_125_49 : xe_code 125 49 = some (.goto (-31), [18]) := by decide +kernel
theorem kc_125_52 : xe_code 125 52 = some (.aload_n 0, []) := by decide +kernel
theorem kc_125_53 : xe_code 125 53 = some (.aload_n 1, []) := by decide +kernel
theorem kc_125_54 : xe_code 125 54 = some (.iload_n 2, []) := by decide +kernel
theorem kc_125_55 : xe_code 125 55 = some (.invokevirtual 115, [133, 2, 593, 4]) := by decide +kernel
theorem kc_125_58 : xe_code 125 58 = some (.aload_n 0, []) := by decide +kernel
theorem kc_125_59 : xe_code 125 59 = some (.aload_n 1, []) := by decide +kernel
theorem kc_125_60 : xe_code 125 60 = some (.invokevirtual 118, [135, 1, 601, 4]) := by decide +kernel
theorem kc_125_63 : xe_code 125 63 = some (.return_, []) := by decide +kernel
theorem kc_126_0 : xe_code 126 0 = some (.iconst 0, []) := by decide +kernel
theorem kc_126_1 : xe_code 126 1 = some (.istore_n 3, []) := by decide +kernel
theorem kc_126_2 : xe_code 126 2 = some (.iload_n 3, []) := by decide +kernel
theorem kc_126_3 : xe_code 126 3 = some (.aload_n 0, []) := by decide +kernel
theorem kc_126_4 : xe_code 126 4 = some (.getfield 79, [4, 5, 177]) := by decide +kernel
theorem kc_126_7 : xe_code 126 7 = some (.if_icmp .ge 60, [67]) := by decide +kernel
theorem kc_126_10 : xe_code 126 10 = some (.iload_n 3, []) := by decide +kernel
theorem kc_126_11 : xe_code 126 11 = some (.bipush 10, []) := by decide +kernel
theorem kc_126_13 : xe_code 126 13 = some (.if_icmp .ge 54, [67]) := by decide +kernel
theorem kc_126_16 : xe_code 126 16 = some (.aload_n 0, []) := by decide +kernel
theorem kc_126_17 : xe_code 126 17 = some (.getfield 25, [4, 2, 174]) := by decide +kernel
theorem kc_126_20 : xe_code 126 20 = some (.iload_n 3, []) := by decide +kernel
theorem kc_126_21 : xe_code 126 21 = some (.aaload, []) := by decide +kernel
theorem kc_126_22 : xe_code 126 22 = some (.getfield 82, [1, 0, 157]) := by decide +kernel
theorem kc_126_25 : xe_code 126 25 = some (.iconst 3, []) := by decide +kernel
theorem kc_126_26 : xe_code 126 26 = some (.if_icmp .ne 35, [61]) := by decide +kernel
theorem kc_126_29 : xe_code 126 29 = some (.aload_n 0, []) := by decide +kernel
theorem kc_126_30 : xe_code 126 30 = some (.aload_n 1, []) := by decide +kernel
theorem kc_126_31 : xe_code 126 31 = some (.iload_n 3, []) := by decide +kernel
theorem kc_126_32 : xe_code 126 32 = some (.iload_n 2, []) := by decide +kernel
theorem kc_126_33 : xe_code 126 33 = some (.invokevirtual 134, [127, 3, 564, 4]) := by decide +kernel
theorem kc_126_36 : xe_code 126 36 = some (.ifCond .eq 25, [61]) := by decide +kernel
theorem kc_126_39 : xe_code 126 39 = some (.aload_n 1, []) := by decide +kernel
theorem kc_126_40 : xe_code 126 40 = some (.aload_n 0, []) := by decide +kernel
theorem kc_126_41 : xe_code 126 41 = some (.getfield 25, [4, 2, 174]) := by decide +kernel
theorem kc_126_44 : xe_code 126 44 = some (.iload_n 3, []) := by decide +kernel
theorem kc_126_45 : xe_code 126 45 = some (.aaload, []) := by decide +kernel
theorem kc_126_46 : xe_code 126 46 = some (.getfield 85, [1, 1, 158]) := by decide +kernel
theorem kc_126_49 : xe_code 126 49 = some (.aload_n 0, []) := by decide +kernel
theorem kc_126_50 : xe_code 126 50 = some (.getfield 25, [4, 2, 174]) := by decide +kernel
theorem kc_126_53 : xe_code 126 53 = some (.iload_n 3, []) := by decide +kernel
theorem kc_126_54 : xe_code 126 54 = some (.aaload, []) := by decide +kernel
theorem kc_126_55 : xe_code 126 55 = some (.getfield 88, [1, 2, 159]) := by decide +kernel
theorem kc_126_58 : xe_code 126 58 = some (.invokevirtual 138, [128, 2, 568, 9]) := by decide +kernel
theorem kc_126_61 : xe_code 126 61 = some (.iinc 3 1, []) := by decide +kernel
theorem kc_126_64 : xe_code 126 64 = some (.goto (-62), [2]) := by decide +kernel
theorem kc_126_67 : xe_code 126 67 = some (.return_, []) := by decide +kernel
theorem kc_127_0 : xe_code 127 0 = some (.aload_n 1, []) := by decide +kernel
theorem kc_127_1 : xe_code 127 1 = some (.getfield 131, [9, 2, 211]) := by decide +kernel
theorem kc_127_4 : xe_code 127 4 = some (.iload_n 2, []) := by decide +kernel
theorem kc_127_5 : xe_code 127 5 = some (.ishr, []) := by decide +kernel
theorem kc_127_6 : xe_code 127 6 = some (.iconst 1, []) := by decide +kernel
theorem kc_127_7 : xe_code 127 7 = some (.iand, []) := by decide +kernel
theorem kc_127_8 : xe_code 127 8 = some (.ifCond .eq 20, [28]) := by decide +kernel
theorem kc_127_11 : xe_code 127 11 = some (.iload_n 3, []) := by decide +kernel
theorem kc_127_12 : xe_code 127 12 = some (.aload_n 0, []) := by decide +kernel
theorem kc_127_13 : xe_code 127 13 = some (.getfield 25, [4, 2, 174]) := by decide +kernel
theorem kc_127_16 : xe_code 127 16 = some (.iload_n 2, []) := by decide +kernel
theorem kc_127_17 : xe_code 127 17 = some (.aaload, []) := by decide +kernel
theorem kc_127_18 : xe_code 127 18 = some (.getfield 91, [1, 3, 160]) := by decide +kernel
theorem kc_127_21 : xe_code 127 21 = some (.if_icmp .lt 7, [28]) := by decide +kernel
theorem kc_127_24 : xe_code 127 24 = some (.iconst 1, []) := by decide +kernel
theorem kc_127_25 : xe_code 127 25 = some (.goto 4, [29]) := by decide +kernel
theorem kc_127_28 : xe_code 127 28 = some (.iconst 0, []) := by decide +kernel
theorem kc_127_29 : xe_code 127 29 = some (.ireturn, []) := by decide +kernel
theorem kc_128_0 : xe_code 128 0 = some (.iload_n 1, []) := by decide +kernel
theorem kc_128_1 : xe_code 128 1 = some (.ifCond .lt 39, [40]) := by decide +kernel
theorem kc_128_4 : xe_code 128 4 = some (.iload_n 1, []) := by decide +kernel
theorem kc_128_5 : xe_code 128 5 = some (.aload_n 0, []) := by decide +kernel
theorem kc_128_6 : xe_code 128 6 = some (.getfield 9, [9, 0, 202]) := by decide +kernel
theorem kc_128_9 : xe_code 128 9 = some (.arraylength, []) := by decide +kernel
theorem kc_128_10 : xe_code 128 10 = some (.if_icmp .ge 30, [40]) := by decide +kernel
theorem kc_128_13 : xe_code 128 13 = some (.aload_n 0, []) := by decide +kernel
theorem kc_128_14 : xe_code 128 14 = some (.getfield 9, [9, 0, 202]) := by decide +kernel
theorem kc_128_17 : xe_code 128 17 = some (.iload_n 1, []) := by decide +kernel
theorem kc_128_18 : xe_code 128 18 = some (.iaload, []) := by decide +kernel
theorem kc_128_19 : xe_code 128 19 = some (.iload_n 2, []) := by decide +kernel
theorem kc_128_20 : xe_code 128 20 = some (.iadd, []) := by decide +kernel
theorem kc_128_21 : xe_code 128 21 = some (.istore_n 3, []) := by decide +kernel
theorem kc_128_22 : xe_code 128 22 = some (.aload_n 0, []) := by decide +kernel
theorem kc_128_23 : xe_code 128 23 = some (.getfield 9, [9, 0, 202]) := by decide +kernel
theorem kc_128_26 : xe_code 128 26 = some (.iload_n 1, []) := by decide +kernel
theorem kc_128_27 : xe_code 128 27 = some (.iload_n 3, []) := by decide +kernel
theorem kc_128_28 : xe_code 128 28 = some (.ldc 31, [99999, 572]) := by decide +kernel
theorem kc_128_30 : xe_code 128 30 = some (.if_icmp .le 8, [38]) := by decide +kernel
theorem kc_128_33 : xe_code 128 33 = some (.ldc 31, [99999, 572]) := by decide +kernel
theorem kc_128_35 : xe_code 128 35 = some (.goto 4, [39]) := by decide +kernel
theorem kc_128_38 : xe_code 128 38 = some (.iload_n 3, []) := by decide +kernel
theorem kc_128_39 : xe_code 128 39 = some (.iastore, []) := by decide +kernel
theorem kc_128_40 : xe_code 128 40 = some (.return_, []) := by decide +kernel
theorem kc_129_0 : xe_code 129 0 = some (.aload_n 0, []) := by decide +kernel
theorem kc_129_1 : xe_code 129 1 = some (.getfield 11, [4, 0, 170]) := by decide +kernel
theorem kc_129_4 : xe_code 129 4 = some (.iload_n 2, []) := by decide +kernel
theorem kc_129_5 : xe_code 129 5 = some (.aaload, []) := by decide +kernel
theorem kc_129_6 : xe_code 129 6 = some (.astore 5, []) := by decide +kernel
theorem kc_129_8 : xe_code 129 8 = some (.aload_n 1, []) := by decide +kernel
theorem kc_129_9 : xe_code 129 9 = some (.iload_n 2, []) := by decide +kernel
theorem kc_129_10 : xe_code 129 10 = some (.aload 5, []) := by decide +kernel
theorem kc_129_12 : xe_code 129 12 = some (.getfield 142, [7, 1, 119]) := by decide +kernel
theorem kc_129_15 : xe_code 129 15 = some (.iload_n 3, []) := by decide +kernel
theorem kc_129_16 : xe_code 129 16 = some (.bipush 24, []) := by decide +kernel
theorem kc_129_18 : xe_code 129 18 = some (.invokestatic 145, [3, 2, 577, 0]) := by decide +kernel
theorem kc_129_21 : xe_code 129 21 = some (.iaload, []) := by decide +kernel
theorem kc_129_22 : xe_code 129 22 = some (.invokevirtual 138, [128, 2, 568, 9]) := by decide +kernel
theorem kc_129_25 : xe_code 129 25 = some (.aload_n 1, []) := by decide +kernel
theorem kc_129_26 : xe_code 129 26 = some (.getfield 148, [9, 0, 204]) := by decide +kernel
theorem kc_129_29 : xe_code 129 29 = some (.iload_n 2, []) := by decide +kernel
theorem kc_129_30 : xe_code 129 30 = some (.iaload, []) := by decide +kernel
theorem kc_129_31 : xe_code 129 31 = some (.istore 6, []) := by decide +kernel
theorem kc_129_33 : xe_code 129 33 = some (.aload 5, []) := by decide +kernel
theorem kc_129_35 : xe_code 129 35 = some (.getfield 94, [7, 0, 116]) := by decide +kernel
theorem kc_129_38 : xe_code 129 38 = some (.iconst 0, []) := by decide +kernel
theorem kc_129_39 : xe_code 129 39 = some (.iaload, []) := by decide +kernel
theorem kc_129_40 : xe_code 129 40 = some (.istore 7, []) := by decide +kernel
theorem kc_129_42 : xe_code 129 42 = some (.iload 7, []) := by decide +kernel
theorem kc_129_44 : xe_code 129 44 = some (.iload 4, []) := by decide +kernel
theorem kc_129_46 : xe_code 129 46 = some (.invokestatic 151, [103, 1, 580, 4]) := by decide +kernel
theorem kc_129_49 : xe_code 129 49 = some (.imul, []) := by decide +kernel
theorem kc_129_50 : xe_code 129 50 = some (.iconst 2, []) := by decide +kernel
theorem kc_129_51 : xe_code 129 51 = some (.idiv, []) := by decide +kernel
theorem kc_129_52 : xe_code 129 52 = some (.istore 8, []) := by decide +kernel
theorem kc_129_54 : xe_code 129 54 = some (.iload 6, []) := by decide +kernel
theorem kc_129_56 : xe_code 129 56 = some (.iload 6, []) := by decide +kernel
theorem kc_129_58 : xe_code 129 58 = some (.iload 8, []) := by decide +kernel
theorem kc_129_60 : xe_code 129 60 = some (.isub, []) := by decide +kernel
theorem kc_129_61 : xe_code 129 61 = some (.aload 5, []) := by decide +kernel
theorem kc_129_63 : xe_code 129 63 = some (.invokevirtual 154, [130, 0, 581, 7]) := by decide +kernel
theorem kc_129_66 : xe_code 129 66 = some (.imul, []) := by decide +kernel
theorem kc_129_67 : xe_code 129 67 = some (.bipush 100, []) := by decide +kernel
theorem kc_129_69 : xe_code 129 69 = some (.idiv, []) := by decide +kernel
theorem kc_129_70 : xe_code 129 70 = some (.isub, []) := by decide +kernel
theorem kc_129_71 : xe_code 129 71 = some (.istore 6, []) := by decide +kernel
theorem kc_129_73 : xe_code 129 73 = some (.aload 5, []) := by decide +kernel
theorem kc_129_75 : xe_code 129 75 = some (.getfield 94, [7, 0, 116]) := by decide +kernel
theorem kc_129_78 : xe_code 129 78 = some (.iconst 1, []) := by decide +kernel
theorem kc_129_79 : xe_code 129 79 = some (.iaload, []) := by decide +kernel
theorem kc_129_80 : xe_code 129 80 = some (.istore 9, []) := by decide +kernel
theorem kc_129_82 : xe_code 129 82 = some (.iload 7, []) := by decide +kernel
theorem kc_129_84 : xe_code 129 84 = some (.iload 9, []) := by decide +kernel
theorem kc_129_86 : xe_code 129 86 = some (.invokestatic 151, [103, 1, 580, 4]) := by decide +kernel
theorem kc_129_89 : xe_code 129 89 = some (.imul, []) := by decide +kernel
theorem kc_129_90 : xe_code 129 90 = some (.istore 10, []) := by decide +kernel
theorem kc_129_92 : xe_code 129 92 = some (.iload 6, []) := by decide +kernel
theorem kc_129_94 : xe_code 129 94 = some (.iload 10, []) := by decide +kernel
theorem kc_129_96 : xe_code 129 96 = some (.if_icmp .le 23, [119]) := by decide +kernel
theorem kc_129_99 : xe_code 129 99 = some (.aload_n 0, []) := by decide +kernel
theorem kc_129_100 : xe_code 129 100 = some (.aload_n 1, []) := by decide +kernel
theorem kc_129_101 : xe_code 129 101 = some (.iload_n 2, []) := by decide +kernel
theorem kc_129_102 : xe_code 129 102 = some (.iload 6, []) := by decide +kernel
theorem kc_129_104 : xe_code 129 104 = some (.iload 10, []) := by decide +kernel
theorem kc_129_106 : xe_code 129 106 = some (.isub, []) := by decide +kernel
theorem kc_129_107 : xe_code 129 107 = some (.iload 9, []) := by decide +kernel
theorem kc_129_109 : xe_code 129 109 = some (.iload 4, []) := by decide +kernel
theorem kc_129_111 : xe_code 129 111 = some (.isub, []) := by decide +kernel
theorem kc_129_112 : xe_code 129 112 = some (.invokevirtual 158, [131, 4, 585, 4]) := by decide +kernel
theorem kc_129_115 : xe_code 129 115 = some (.iload 10, []) := by decide +kernel
