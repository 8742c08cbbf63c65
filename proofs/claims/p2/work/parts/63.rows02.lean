theorem kc_72_32 : xe_code 72 32 = some (.iconst 1, []) := by decide +kernel
theorem kc_72_33 : xe_code 72 33 = some (.goto 4, [37]) := by decide +kernel
theorem kc_72_36 : xe_code 72 36 = some (.iconst 0, []) := by decide +kernel
theorem kc_72_37 : xe_code 72 37 = some (.iadd, []) := by decide +kernel
theorem kc_72_38 : xe_code 72 38 = some (.iload_n 3, []) := by decide +kernel
theorem kc_72_39 : xe_code 72 39 = some (.ifCond .eq 7, [46]) := by decide +kernel
theorem kc_72_42 : xe_code 72 42 = some (.iconst 1, []) := by decide +kernel
theorem kc_72_43 : xe_code 72 43 = some (.goto 4, [47]) := by decide +kernel
theorem kc_72_46 : xe_code 72 46 = some (.iconst 0, []) := by decide +kernel
theorem kc_72_47 : xe_code 72 47 = some (.iastore, []) := by decide +kernel
theorem kc_72_48 : xe_code 72 48 = some (.aload_n 0, []) := by decide +kernel
theorem kc_72_49 : xe_code 72 49 = some (.getfield 166, [12, 63, 1010]) := by decide +kernel
theorem kc_72_52 : xe_code 72 52 = some (.iload_n 2, []) := by decide +kernel
theorem kc_72_53 : xe_code 72 53 = some (.iload_n 3, []) := by decide +kernel
theorem kc_72_54 : xe_code 72 54 = some (.ifCond .eq 10, [64]) := by decide +kernel
theorem kc_72_57 : xe_code 72 57 = some (.aload_n 0, []) := by decide +kernel
theorem kc_72_58 : xe_code 72 58 = some (.getfield 213, [12, 1, 948]) := by decide +kernel
theorem kc_72_61 : xe_code 72 61 = some (.goto 9, [70]) := by decide +kernel
theorem kc_72_64 : xe_code 72 64 = some (.aload_n 0, []) := by decide +kernel
theorem kc_72_65 : xe_code 72 65 = some (.getfield 166, [12, 63, 1010]) := by decide +kernel
theorem kc_72_68 : xe_code 72 68 = some (.iload_n 2, []) := by decide +kernel
theorem kc_72_69 : xe_code 72 69 = some (.iaload, []) := by decide +kernel
theorem kc_72_70 : xe_code 72 70 = some (.iastore, []) := by decide +kernel
theorem kc_72_71 : xe_code 72 71 = some (.iconst 1, []) := by decide +kernel
theorem kc_72_72 : xe_code 72 72 = some (.ireturn, []) := by decide +kernel
theorem kc_73_0 : xe_code 73 0 = some (.aload_n 0, []) := by decide +kernel
theorem kc_73_1 : xe_code 73 1 = some (.iconst 0, []) := by decide +kernel
theorem kc_73_2 : xe_code 73 2 = some (.putfield 169, [12, 0, 947]) := by decide +kernel
theorem kc_73_5 : xe_code 73 5 = some (.iload_n 1, []) := by decide +kernel
theorem kc_73_6 : xe_code 73 6 = some (.iconst 0, []) := by decide +kernel
theorem kc_73_7 : xe_code 73 7 = some (.iconst 3, []) := by decide +kernel
theorem kc_73_8 : xe_code 73 8 = some (.invokestatic 173, [11, 3, 1148, 12]) := by decide +kernel
theorem kc_73_11 : xe_code 73 11 = some (.ifCond .eq 12, [23]) := by decide +kernel
theorem kc_73_14 : xe_code 73 14 = some (.iload_n 2, []) := by decide +kernel
theorem kc_73_15 : xe_code 73 15 = some (.iconst 0, []) := by decide +kernel
theorem kc_73_16 : xe_code 73 16 = some (.iconst 1, []) := by decide +kernel
theorem kc_73_17 : xe_code 73 17 = some (.invokestatic 173, [11, 3, 1148, 12]) := by decide +kernel
theorem kc_73_20 : xe_code 73 20 = some (.ifCond .ne 10, [30]) := by decide +kernel
theorem kc_73_23 : xe_code 73 23 = some (.aload_n 0, []) := by decide +kernel
theorem kc_73_24 : xe_code 73 24 = some (.bipush (-2), []) := by decide +kernel
theorem kc_73_26 : xe_code 73 26 = some (.invokevirtual 188, [12, 1, 1151, 12]) := by decide +kernel
theorem kc_73_29 : xe_code 73 29 = some (.ireturn, []) := by decide +kernel
theorem kc_73_30 : xe_code 73 30 = some (.aload_n 0, []) := by decide +kernel
theorem kc_73_31 : xe_code 73 31 = some (.invokevirtual 276, [48, 0, 1294, 12]) := by decide +kernel
theorem kc_73_34 : xe_code 73 34 = some (.istore_n 3, []) := by decide +kernel
theorem kc_73_35 : xe_code 73 35 = some (.iconst 0, []) := by decide +kernel
theorem kc_73_36 : xe_code 73 36 = some (.istore 4, []) := by decide +kernel
theorem kc_73_38 : xe_code 73 38 = some (.iconst 0, []) := by decide +kernel
theorem kc_73_39 : xe_code 73 39 = some (.istore 5, []) := by decide +kernel
theorem kc_73_41 : xe_code 73 41 = some (.iload 5, []) := by decide +kernel
theorem kc_73_43 : xe_code 73 43 = some (.bipush 6, []) := by decide +kernel
theorem kc_73_45 : xe_code 73 45 = some (.if_icmp .ge 51, [96]) := by decide +kernel
theorem kc_73_48 : xe_code 73 48 = some (.iload 5, []) := by decide +kernel
theorem kc_73_50 : xe_code 73 50 = some (.aload_n 0, []) := by decide +kernel
theorem kc_73_51 : xe_code 73 51 = some (.getfield 225, [12, 23, 970]) := by decide +kernel
theorem kc_73_54 : xe_code 73 54 = some (.if_icmp .ge 42, [96]) := by decide +kernel
theorem kc_73_57 : xe_code 73 57 = some (.iload 4, []) := by decide +kernel
theorem kc_73_59 : xe_code 73 59 = some (.ifCond .ne 24, [83]) := by decide +kernel
theorem kc_73_62 : xe_code 73 62 = some (.iload_n 3, []) := by decide +kernel
theorem kc_73_63 : xe_code 73 63 = some (.iload 5, []) := by decide +kernel
theorem kc_73_65 : xe_code 73 65 = some (.ishr, []) := by decide +kernel
theorem kc_73_66 : xe_code 73 66 = some (.iconst 1, []) := by decide +kernel
theorem kc_73_67 : xe_code 73 67 = some (.iand, []) := by decide +kernel
theorem kc_73_68 : xe_code 73 68 = some (.iconst 1, []) := by decide +kernel
theorem kc_73_69 : xe_code 73 69 = some (.if_icmp .ne 18, [87]) := by decide +kernel
theorem kc_73_72 : xe_code 73 72 = some (.aload_n 0, []) := by decide +kernel
theorem kc_73_73 : xe_code 73 73 = some (.getfield 72, [12, 24, 971]) := by decide +kernel
theorem kc_73_76 : xe_code 73 76 = some (.iload 5, []) := by decide +kernel
theorem kc_73_78 : xe_code 73 78 = some (.iaload, []) := by decide +kernel
theorem kc_73_79 : xe_code 73 79 = some (.iload_n 1, []) := by decide +kernel
theorem kc_73_80 : xe_code 73 80 = some (.if_icmp .ne 7, [87]) := by decide +kernel
theorem kc_73_83 : xe_code 73 83 = some (.iconst 1, []) := by decide +kernel
theorem kc_73_84 : xe_code 73 84 = some (.goto 4, [88]) := by decide +kernel
theorem kc_73_87 : xe_code 73 87 = some (.iconst 0, []) := by decide +kernel
theorem kc_73_88 : xe_code 73 88 = some (.istore 4, []) := by decide +kernel
theorem kc_73_90 : xe_code 73 90 = some (.iinc 5 1, []) := by decide +kernel
theorem kc_73_93 : xe_code 73 93 = some (.goto (-52), [41]) := by decide +kernel
theorem kc_73_96 : xe_code 73 96 = some (.aload_n 0, []) := by decide +kernel
theorem kc_73_97 : xe_code 73 97 = some (.getfield 166, [12, 63, 1010]) := by decide +kernel
theorem kc_73_100 : xe_code 73 100 = some (.iload_n 1, []) := by decide +kernel
theorem kc_73_101 : xe_code 73 101 = some (.iaload, []) := by decide +kernel
theorem kc_73_102 : xe_code 73 102 = some (.ifCond .ge 10, [112]) := by decide +kernel
theorem kc_73_105 : xe_code 73 105 = some (.aload_n 0, []) := by decide +kernel
theorem kc_73_106 : xe_code 73 106 = some (.getfield 213, [12, 1, 948]) := by decide +kernel
theorem kc_73_109 : xe_code 73 109 = some (.goto 9, [118]) := by decide +kernel
theorem kc_73_112 : xe_code 73 112 = some (.aload_n 0, []) := by decide +kernel
theorem kc_73_113 : xe_code 73 113 = some (.getfield 166, [12, 63, 1010]) := by decide +kernel
theorem kc_73_116 : xe_code 73 116 = some (.iload_n 1, []) := by decide +kernel
theorem kc_73_117 : xe_code 73 117 = some (.iaload, []) := by decide +kernel
theorem kc_73_118 : xe_code 73 118 = some (.bipush 24, []) := by decide +kernel
theorem kc_73_120 : xe_code 73 120 = some (.idiv, []) := by decide +kernel
theorem kc_73_121 : xe_code 73 121 = some (.istore 5, []) := by decide +kernel
theorem kc_73_123 : xe_code 73 123 = some (.iconst (-1), []) := by decide +kernel
theorem kc_73_124 : xe_code 73 124 = some (.istore 6, []) := by decide +kernel
theorem kc_73_126 : xe_code 73 126 = some (.iconst 0, []) := by decide +kernel
theorem kc_73_127 : xe_code 73 127 = some (.istore 7, []) := by decide +kernel
theorem kc_73_129 : xe_code 73 129 = some (.iload 7, []) := by decide +kernel
theorem kc_73_131 : xe_code 73 131 = some (.aload_n 0, []) := by decide +kernel
theorem kc_73_132 : xe_code 73 132 = some (.getfield 314, [12, 56, 1003]) := by decide +kernel
theorem kc_73_135 : xe_code 73 135 = some (.if_icmp .ge 63, [198]) := by decide +kernel
theorem kc_73_138 : xe_code 73 138 = some (.aload_n 0, []) := by decide +kernel
theorem kc_73_139 : xe_code 73 139 = some (.getfield 154, [12, 58, 1005]) := by decide +kernel
theorem kc_73_142 : xe_code 73 142 = some (.iload 7, []) := by decide +kernel
theorem kc_73_144 : xe_code 73 144 = some (.iaload, []) := by decide +kernel
theorem kc_73_145 : xe_code 73 145 = some (.iload_n 1, []) := by decide +kernel
theorem kc_73_146 : xe_code 73 146 = some (.if_icmp .ne 42, [188]) := by decide +kernel
theorem kc_73_149 : xe_code 73 149 = some (.aload_n 0, []) := by decide +kernel
theorem kc_73_150 : xe_code 73 150 = some (.getfield 151, [12, 57, 1004]) := by decide +kernel
theorem kc_73_153 : xe_code 73 153 = some (.iload 7, []) := by decide +kernel
theorem kc_73_155 : xe_code 73 155 = some (.iaload, []) := by decide +kernel
theorem kc_73_156 : xe_code 73 156 = some (.iload 5, []) := by decide +kernel
theorem kc_73_158 : xe_code 73 158 = some (.if_icmp .gt 30, [188]) := by decide +kernel
theorem kc_73_161 : xe_code 73 161 = some (.iload 6, []) := by decide +kernel
theorem kc_73_163 : xe_code 73 163 = some (.ifCond .lt 20, [183]) := by decide +kernel
theorem kc_73_166 : xe_code 73 166 = some (.aload_n 0, []) := by decide +kernel
theorem kc_73_167 : xe_code 73 167 = some (.getfield 151, [12, 57, 1004]) := by decide +kernel
theorem kc_73_170 : xe_code 73 170 = some (.iload 7, []) := by decide +kernel
theorem kc_73_172 : xe_code 73 172 = some (.iaload, []) := by decide +kernel
theorem kc_73_173 : xe_code 73 173 = some (.aload_n 0, []) := by decide +kernel
theorem kc_73_174 : xe_code 73 174 = some (.getfield 151, [12, 57, 1004]) := by decide +kernel
theorem kc_73_177 : xe_code 73 177 = some (.iload 6, []) := by decide +kernel
theorem kc_73_179 : xe_code 73 179 = some (.iaload, []) := by decide +kernel
theorem kc_73_180 : xe_code 73 180 = some (.if_icmp .lt 8, [188]) := by decide +kernel
theorem kc_73_183 : xe_code 73 183 = some (.iload 7, []) := by decide +kernel
theorem kc_73_185 : xe_code 73 185 = some (.goto 5, [190]) := by decide +kernel
theorem kc_73_188 : xe_code 73 188 = some (.iload 6, []) := by decide +kernel
theorem kc_73_190 : xe_code 73 190 = some (.istore 6, []) := by decide +kernel
theorem kc_73_192 : xe_code 73 192 = some (.iinc 7 1, []) := by decide +kernel
theorem kc_73_195 : xe_code 73 195 = some (.goto (-66), [129]) := by decide +kernel
theorem kc_73_198 : xe_code 73 198 = some (.iload 4, []) := by decide +kernel
theorem kc_73_200 : xe_code 73 200 = some (.ifCond .eq 8, [208]) := by decide +kernel
theorem kc_73_203 : xe_code 73 203 = some (.iload 6, []) := by decide +kernel
theorem kc_73_205 : xe_code 73 205 = some (.ifCond .ge 6, [211]) := by decide +kernel
theorem kc_73_208 : xe_code 73 208 = some (.bipush (-9), []) := by decide +kernel
theorem kc_73_210 : xe_code 73 210 = some (.ireturn, []) := by decide +kernel
theorem kc_73_211 : xe_code 73 211 = some (.aload_n 0, []) := by decide +kernel
theorem kc_73_212 : xe_code 73 212 = some (.getfield 317, [12, 61, 1008]) := by decide +kernel
theorem kc_73_215 : xe_code 73 215 = some (.ifCond .eq 17, [232]) := by decide +kernel
theorem kc_73_218 : xe_code 73 218 = some (.aload_n 0, []) := by decide +kernel
theorem kc_73_219 : xe_code 73 219 = some (.getfield 160, [12, 60, 1007]) := by decide +kernel
theorem kc_73_222 : xe_code 73 222 = some (.iload 6, []) := by decide +kernel
theorem kc_73_224 : xe_code 73 224 = some (.iaload, []) := by decide +kernel
theorem kc_73_225 : xe_code 73 225 = some (.iconst 1, []) := by decide +kernel
theorem kc_73_226 : xe_code 73 226 = some (.iadd, []) := by decide +kernel
theorem kc_73_227 : xe_code 73 227 = some (.iconst 2, []) := by decide +kernel
theorem kc_73_228 : xe_code 73 228 = some (.idiv, []) := by decide +kernel
theorem kc_73_229 : xe_code 73 229 = some (.goto 10, [239]) := by decide +kernel
theorem kc_73_232 : xe_code 73 232 = some (.aload_n 0, []) := by decide +kernel
theorem kc_73_233 : xe_code 73 233 = some (.getfield 160, [12, 60, 1007]) := by decide +kernel
theorem kc_73_236 : xe_code 73 236 = some (.iload 6, []) := by decide +kernel
theorem kc_73_238 : xe_code 73 238 = some (.iaload, []) := by decide +kernel
theorem kc_73_239 : xe_code 73 239 = some (.istore 7, []) := by decide +kernel
theorem kc_73_241 : xe_code 73 241 = some (.iload_n 2, []) := by decide +kernel
theorem kc_73_242 : xe_code 73 242 = some (.ifCond .ne 11, [253]) := by decide +kernel
theorem kc_73_245 : xe_code 73 245 = some (.iload 5, []) := by decide +kernel
theorem kc_73_247 : xe_code 73 247 = some (.iload 7, []) := by decide +kernel
theorem kc_73_249 : xe_code 73 249 = some (.iadd, []) := by decide +kernel
theorem kc_73_250 : xe_code 73 250 = some (.goto 10, [260]) := by decide +kernel
theorem kc_73_253 : xe_code 73 253 = some (.aload_n 0, []) := by decide +kernel
theorem kc_73_254 : xe_code 73 254 = some (.getfield 157, [12, 59, 1006]) := by decide +kernel
theorem kc_73_257 : xe_code 73 257 = some (.iload 6, []) := by decide +kernel
theorem kc_73_259 : xe_code 73 259 = some (.iaload, []) := by decide +kernel
theorem kc_73_260 : xe_code 73 260 = some (.ireturn, []) := by decide +kernel
theorem kc_74_0 : xe_code 74 0 = some (.aload_n 0, []) := by decide +kernel
theorem kc_74_1 : xe_code 74 1 = some (.iconst 0, []) := by decide +kernel
theorem kc_74_2 : xe_code 74 2 = some (.putfield 169, [12, 0, 947]) := by decide +kernel
theorem kc_74_5 : xe_code 74 5 = some (.iload_n 1, []) := by decide +kernel
theorem kc_74_6 : xe_code 74 6 = some (.iconst 0, []) := by decide +kernel
theorem kc_74_7 : xe_code 74 7 = some (.iconst 3, []) := by decide +kernel
theorem kc_74_8 : xe_code 74 8 = some (.invokestatic 173, [11, 3, 1148, 12]) := by decide +kernel
theorem kc_74_11 : xe_code 74 11 = some (.ifCond .ne 10, [21]) := by decide +kernel
theorem kc_74_14 : xe_code 74 14 = some (.aload_n 0, []) := by decide +kernel
theorem kc_74_15 : xe_code 74 15 = some (.bipush (-2), []) := by decide +kernel
theorem kc_74_17 : xe_code 74 17 = some (.invokevirtual 188, [12, 1, 1151, 12]) := by decide +kernel
theorem kc_74_20 : xe_code 74 20 = some (.ireturn, []) := by decide +kernel
theorem kc_74_21 : xe_code 74 21 = some (.aload_n 0, []) := by decide +kernel
theorem kc_74_22 : xe_code 74 22 = some (.getfield 163, [12, 62, 1009]) := by decide +kernel
theorem kc_74_25 : xe_code 74 25 = some (.iconst 2, []) := by decide +kernel
theorem kc_74_26 : xe_code 74 26 = some (.iload_n 1, []) := by decide +kernel
theorem kc_74_27 : xe_code 74 27 = some (.imul, []) := by decide +kernel
theorem kc_74_28 : xe_code 74 28 = some (.iaload, []) := by decide +kernel
theorem kc_74_29 : xe_code 74 29 = some (.ifCond .lt 41, [70]) := by decide +kernel
theorem kc_74_32 : xe_code 74 32 = some (.aload_n 0, []) := by decide +kernel
theorem kc_74_33 : xe_code 74 33 = some (.getfield 163, [12, 62, 1009]) := by decide +kernel
theorem kc_74_36 : xe_code 74 36 = some (.iconst 2, []) := by decide +kernel
theorem kc_74_37 : xe_code 74 37 = some (.iload_n 1, []) := by decide +kernel
theorem kc_74_38 : xe_code 74 38 = some (.imul, []) := by decide +kernel
theorem kc_74_39 : xe_code 74 39 = some (.iconst 1, []) := by decide +kernel
theorem kc_74_40 : xe_code 74 40 = some (.iadd, []) := by decide +kernel
theorem kc_74_41 : xe_code 74 41 = some (.iaload, []) := by decide +kernel
theorem kc_74_42 : xe_code 74 42 = some (.ifCond .lt 28, [70]) := by decide +kernel
theorem kc_74_45 : xe_code 74 45 = some (.aload_n 0, []) := by decide +kernel
theorem kc_74_46 : xe_code 74 46 = some (.getfield 163, [12, 62, 1009]) := by decide +kernel
theorem kc_74_49 : xe_code 74 49 = some (.iconst 2, []) := by decide +kernel
theorem kc_74_50 : xe_code 74 50 = some (.iload_n 1, []) := by decide +kernel
theorem kc_74_51 : xe_code 74 51 = some (.imul, []) := by decide +kernel
theorem kc_74_52 : xe_code 74 52 = some (.iaload, []) := by decide +kernel
theorem kc_74_53 : xe_code 74 53 = some (.aload_n 0, []) := by decide +kernel
theorem kc_74_54 : xe_code 74 54 = some (.getfield 163, [12, 62, 1009]) := by decide +kernel
theorem kc_74_57 : xe_code 74 57 = some (.iconst 2, []) := by decide +kernel
theorem kc_74_58 : xe_code 74 58 = some (.iload_n 1, []) := by decide +kernel
theorem kc_74_59 : xe_code 74 59 = some (.imul, []) := by decide +kernel
theorem kc_74_60 : xe_code 74 60 = some (.iconst 1, []) := by decide +kernel
theorem kc_74_61 : xe_code 74 61 = some (.iadd, []) := by decide +kernel
theorem kc_74_62 : xe_code 74 62 = some (.iaload, []) := by decide +kernel
theorem kc_74_63 : xe_code 74 63 = some (.if_icmp .eq 7, [70]) := by decide +kernel
theorem kc_74_66 : xe_code 74 66 = some (.iconst 1, []) := by decide +kernel
theorem kc_74_67 : xe_code 74 67 = some (.goto 4, [71]) := by decide +kernel
theorem kc_74_70 : xe_code 74 70 = some (.iconst 0, []) := by decide +kernel
theorem kc_74_71 : xe_code 74 71 = some (.ireturn, []) := by decide +kernel
theorem kc_75_0 : xe_code 75 0 = some (.aload_n 0, []) := by decide +kernel
theorem kc_75_1 : xe_code 75 1 = some (.iconst 0, []) := by decide +kernel
theorem kc_75_2 : xe_code 75 2 = some (.putfield 169, [12, 0, 947]) := by decide +kernel
theorem kc_75_5 : xe_code 75 5 = some (.iconst 0, []) := by decide +kernel
theorem kc_75_6 : xe_code 75 6 = some (.istore_n 2, []) := by decide +kernel
theorem kc_75_7 : xe_code 75 7 = some (.iload_n 1, []) := by decide +kernel
theorem kc_75_8 : xe_code 75 8 = some (.tableswitch 198 0 9 #[56, 61, 94, 99, 104, 139, 144, 179, 184, 189], [206, 64, 69, 102, 107, 112, 147, 152, 187, 192, 197]) := by decide +kernel
theorem kc_75_64 : xe_code 75 64 = some (.aload_n 0, []) := by decide +kernel
theorem kc_75_65 : xe_code 75 65 = some (.getfield 213, [12, 1, 948]) := by decide +kernel
theorem kc_75_68 : xe_code 75 68 = some (.ireturn, []) := by decide +kernel
theorem kc_75_69 : xe_code 75 69 = some (.iconst 0, []) := by decide +kernel
theorem kc_75_70 : xe_code 75 70 = some (.istore_n 3, []) := by decide +kernel
theorem kc_75_71 : xe_code 75 71 = some (.iload_n 3, []) := by decide +kernel
theorem kc_75_72 : xe_code 75 72 = some (.bipush 12, []) := by decide +kernel
theorem kc_75_74 : xe_code 75 74 = some (.if_icmp .ge 26, [100]) := by decide +kernel
theorem kc_75_77 : xe_code 75 77 = some (.iload_n 2, []) := by decide +kernel
theorem kc_75_78 : xe_code 75 78 = some (.aload_n 0, []) := by decide +kernel
theorem kc_75_79 : xe_code 75 79 = some (.getfield 37, [12, 11, 958]) := by decide +kernel
theorem kc_75_82 : xe_code 75 82 = some (.iload_n 3, []) := by decide +kernel
theorem kc_75_83 : xe_code 75 83 = some (.iaload, []) := by decide +kernel
theorem kc_75_84 : xe_code 75 84 = some (.ifCond .lt 7, [91]) := by decide +kernel
theorem kc_75_87 : xe_code 75 87 = some (.iconst 1, []) := by decide +kernel
theorem kc_75_88 : xe_code 75 88 = some (.goto 4, [92]) := by decide +kernel
theorem kc_75_91 : xe_code 75 91 = some (.iconst 0, []) := by decide +kernel
theorem kc_75_92 : xe_code 75 92 = some (.iadd, []) := by decide +kernel
theorem kc_75_93 : xe_code 75 93 = some (.istore_n 2, []) := by decide +kernel
theorem kc_75_94 : xe_code 75 94 = some (.iinc 3 1, []) := by decide +kernel
theorem kc_75_97 : xe_code 75 97 = some (.goto (-26), [71]) := by decide +kernel
theorem kc_75_100 : xe_code 75 100 = some (.iload_n 2, []) := by decide +kernel
theorem kc_75_101 : xe_code 75 101 = some (.ireturn, []) := by decide +kernel
theorem kc_75_102 : xe_code 75 102 = some (.aload_n 0, []) := by decide +kernel
theorem kc_75_103 : xe_code 75 103 = some (.getfield 222, [12, 18, 965]) := by decide +kernel
theorem kc_75_106 : xe_code 75 106 = some (.ireturn, []) := by decide +kernel
theorem kc_75_107 : xe_code 75 107 = some (.aload_n 0, []) := by decide +kernel
theorem kc_75_108 : xe_code 75 108 = some (.getfield 225, [12, 23, 970]) := by decide +kernel
theorem kc_75_111 : xe_code 75 111 = some (.ireturn, []) := by decide +kernel
theorem kc_75_112 : xe_code 75 112 = some (.iconst 0, []) := by decide +kernel
theorem kc_75_113 : xe_code 75 113 = some (.istore_n 3, []) := by decide +kernel
theorem kc_75_114 : xe_code 75 114 = some (.iload_n 3, []) := by decide +kernel
theorem kc_75_115 : xe_code 75 115 = some (.aload_n 0, []) := by decide +kernel
theorem kc_75_116 : xe_code 75 116 = some (.getfield 225, [12, 23, 970]) := by decide +kernel
theorem kc_75_119 : xe_code 75 119 = some (.if_icmp .ge 26, [145]) := by decide +kernel
theorem kc_75_122 : xe_code 75 122 = some (.iload_n 2, []) := by decide +kernel
theorem kc_75_123 : xe_code 75 123 = some (.aload_n 0, []) := by decide +kernel
theorem kc_75_124 : xe_code 75 124 = some (.getfield 84, [12, 28, 975]) := by decide +kernel
theorem kc_75_127 : xe_code 75 127 = some (.iload_n 3, []) := by decide +kernel
theorem kc_75_128 : xe_code 75 128 = some (.baload, []) := by decide +kernel
theorem kc_75_129 : xe_code 75 129 = some (.ifCond .eq 7, [136]) := by decide +kernel
theorem kc_75_132 : xe_code 75 132 = some (.iconst 1, []) := by decide +kernel
theorem kc_75_133 : xe_code 75 133 = some (.goto 4, [137]) := by decide +kernel
theorem kc_75_136 : xe_code 75 136 = some (.iconst 0, []) := by decide +kernel
theorem kc_75_137 : xe_code 75 137 = some (.iadd, []) := by decide +kernel
theorem kc_75_138 : xe_code 75 138 = some (.istore_n 2, []) := by decide +kernel
theorem kc_75_139 : xe_code 75 139 = some (.iinc 3 1, []) := by decide +kernel
theorem kc_75_142 : xe_code 75 142 = some (.goto (-28), [114]) := by decide +kernel
theorem kc_75_145 : xe_code 75 145 = some (.iload_n 2, []) := by decide +kernel
theorem kc_75_146 : xe_code 75 146 = some (.ireturn, []) := by decide +kernel
theorem kc_75_147 : xe_code 75 147 = some (.aload_n 0, []) := by decide +kernel
theorem kc_75_148 : xe_code 75 148 = some (.getfield 279, [12, 45, 992]) := by decide +kernel
theorem kc_75_151 : xe_code 75 151 = some (.ireturn, []) := by decide +kernel
theorem kc_75_152 : xe_code 75 152 = some (.iconst 0, []) := by decide +kernel
theorem kc_75_153 : xe_code 75 153 = some (.istore_n 3, []) := by decide +kernel
theorem kc_75_154 : xe_code 75 154 = some (.iload_n 3, []) := by decide +kernel
theorem kc_75_155 : xe_code 75 155 = some (.aload_n 0, []) := by decide +kernel
theorem kc_75_156 : xe_code 75 156 = some (.getfield 279, [12, 45, 992]) := by decide +kernel
theorem kc_75_159 : xe_code 75 159 = some (.if_icmp .ge 26, [185]) := by decide +kernel
theorem kc_75_162 : xe_code 75 162 = some (.iload_n 2, []) := by decide +kernel
theorem kc_75_163 : xe_code 75 163 = some (.aload_n 0, []) := by decide +kernel
theorem kc_75_164 : xe_code 75 164 = some (.getfield 130, [12, 48, 995]) := by decide +kernel
theorem kc_75_167 : xe_code 75 167 = some (.iload_n 3, []) := by decide +kernel
theorem kc_75_168 : xe_code 75 168 = some (.iaload, []) := by decide +kernel
theorem kc_75_169 : xe_code 75 169 = some (.ifCond .le 7, [176]) := by decide +kernel
theorem kc_75_172 : xe_code 75 172 = some (.iconst 1, []) := by decide +kernel
theorem kc_75_173 : xe_code 75 173 = some (.goto 4, [177]) := by decide +kernel
theorem kc_75_176 : xe_code 75 176 = some (.iconst 0, []) := by decide +kernel
theorem kc_75_177 : xe_code 75 177 = some (.iadd, []) := by decide +kernel
theorem kc_75_178 : xe_code 75 178 = some (.istore_n 2, []) := by decide +kernel
theorem kc_75_179 : xe_code 75 179 = some (.iinc 3 1, []) := by decide +kernel
theorem kc_75_182 : xe_code 75 182 = some (.goto (-28), [154]) := by decide +kernel
theorem kc_75_185 : xe_code 75 185 = some (.iload_n 2, []) := by decide +kernel
theorem kc_75_186 : xe_code 75 186 = some (.ireturn, []) := by decide +kernel
theorem kc_75_187 : xe_code 75 187 = some (.aload_n 0, []) := by decide +kernel
theorem kc_75_188 : xe_code 75 188 = some (.getfield 249, [12, 34, 981]) := by decide +kernel
theorem kc_75_191 : xe_code 75 191 = some (.ireturn, []) := by decide +kernel
theorem kc_75_192 : xe_code 75 192 = some (.aload_n 0, []) := by decide +kernel
theorem kc_75_193 : xe_code 75 193 = some (.getfield 314, [12, 56, 1003]) := by decide +kernel
theorem kc_75_196 : xe_code 75 196 = some (.ireturn, []) := by decide +kernel
theorem kc_75_197 : xe_code 75 197 = some (.aload_n 0, []) := by decide +kernel
theorem kc_75_198 : xe_code 75 198 = some (.invokevirtual 311, [69, 0, 1377, 12]) := by decide +kernel
theorem kc_75_201 : xe_code 75 201 = some (.aload_n 0, []) := by decide +kernel
theorem kc_75_202 : xe_code 75 202 = some (.getfield 302, [12, 54, 1001]) := by decide +kernel
theorem kc_75_205 : xe_code 75 205 = some (.ireturn, []) := by decide +kernel
theorem kc_75_206 : xe_code 75 206 = some (.iload_n 1, []) := by decide +kernel
theorem kc_75_207 : xe_code 75 207 = some (.bipush 11, []) := by decide +kernel
theorem kc_75_209 : xe_code 75 209 = some (.bipush 16, []) := by decide +kernel
theorem kc_75_211 : xe_code 75 211 = some (.invokestatic 173, [11, 3, 1148, 12]) := by decide +kernel
theorem kc_75_214 : xe_code 75 214 = some (.ifCond .eq 15, [229]) := by decide +kernel
theorem kc_75_217 : xe_code 75 217 = some (.aload_n 0, []) := by decide +kernel
theorem kc_75_218 : xe_code 75 218 = some (.getfield 87, [12, 29, 976]) := by decide +kernel
theorem kc_75_221 : xe_code 75 221 = some (.iload_n 1, []) := by decide +kernel
theorem kc_75_222 : xe_code 75 222 = some (.bipush 10, []) := by decide +kernel
theorem kc_75_224 : xe_code 75 224 = some (.isub, []) := by decide +kernel
theorem kc_75_225 : xe_code 75 225 = some (.iaload, []) := by decide +kernel
theorem kc_75_226 : xe_code 75 226 = some (.goto 5, [231]) := by decide +kernel
theorem kc_75_229 : xe_code 75 229 = some (.bipush (-9), []) := by decide +kernel
theorem kc_75_231 : xe_code 75 231 = some (.ireturn, []) := by decide +kernel
theorem kc_76_0 : xe_code 76 0 = some (.aload_n 0, []) := by decide +kernel
theorem kc_76_1 : xe_code 76 1 = some (.invokespecial 1, [0, 0, 75, 0]) := by decide +kernel
theorem kc_76_4 : xe_code 76 4 = some (.aload_n 0, []) := by decide +kernel
theorem kc_76_5 : xe_code 76 5 = some (.new 7, [4, 78]) := by decide +kernel
theorem kc_76_8 : xe_code 76 8 = some (.dup, []) := by decide +kernel
theorem kc_76_9 : xe_code 76 9 = some (.invokespecial 9, [77, 0, 80, 4]) := by decide +kernel
theorem kc_76_12 : xe_code 76 12 = some (.putfield 10, [0, 0, 369]) := by decide +kernel
theorem kc_76_15 : xe_code 76 15 = some (.aload_n 0, []) := by decide +kernel
theorem kc_76_16 : xe_code 76 16 = some (.new 16, [9, 196]) := by decide +kernel
theorem kc_76_19 : xe_code 76 19 = some (.dup, []) := by decide +kernel
theorem kc_76_20 : xe_code 76 20 = some (.invokespecial 18, [82, 0, 198, 9]) := by decide +kernel
theorem kc_76_23 : xe_code 76 23 = some (.putfield 19, [0, 1, 370]) := by decide +kernel
theorem kc_76_26 : xe_code 76 26 = some (.aload_n 0, []) := by decide +kernel
theorem kc_76_27 : xe_code 76 27 = some (.new 23, [3, 224]) := by decide +kernel
theorem kc_76_30 : xe_code 76 30 = some (.dup, []) := by decide +kernel
theorem kc_76_31 : xe_code 76 31 = some (.aload_n 0, []) := by decide +kernel
theorem kc_76_32 : xe_code 76 32 = some (.getfield 10, [0, 0, 369]) := by decide +kernel
theorem kc_76_35 : xe_code 76 35 = some (.invokespecial 25, [83, 1, 226, 3]) := by decide +kernel
theorem kc_76_38 : xe_code 76 38 = some (.putfield 28, [0, 2, 371]) := by decide +kernel
theorem kc_76_41 : xe_code 76 41 = some (.aload_n 0, []) := by decide +kernel
theorem kc_76_42 : xe_code 76 42 = some (.new 32, [6, 262]) := by decide +kernel
theorem kc_76_45 : xe_code 76 45 = some (.dup, []) := by decide +kernel
theorem kc_76_46 : xe_code 76 46 = some (.invokespecial 34, [84, 0, 264, 6]) := by decide +kernel
theorem kc_76_49 : xe_code 76 49 = some (.putfield 35, [0, 3, 372]) := by decide +kernel
theorem kc_76_52 : xe_code 76 52 = some (.aload_n 0, []) := by decide +kernel
theorem kc_76_53 : xe_code 76 53 = some (.new 39, [2, 286]) := by decide +kernel
theorem kc_76_56 : xe_code 76 56 = some (.dup, []) := by decide +kernel
theorem kc_76_57 : xe_code 76 57 = some (.invokespecial 41, [85, 0, 288, 2]) := by decide +kernel
theorem kc_76_60 : xe_code 76 60 = some (.putfield 42, [0, 4, 373]) := by decide +kernel
theorem kc_76_63 : xe_code 76 63 = some (.aload_n 0, []) := by decide +kernel
theorem kc_76_64 : xe_code 76 64 = some (.new 46, [5, 306]) := by decide +kernel
theorem kc_76_67 : xe_code 76 67 = some (.dup, []) := by decide +kernel
theorem kc_76_68 : xe_code 76 68 = some (.invokespecial 48, [86, 0, 308, 5]) := by decide +kernel
theorem kc_76_71 : xe_code 76 71 = some (.putfield 49, [0, 5, 374]) := by decide +kernel
theorem kc_76_74 : xe_code 76 74 = some (.aload_n 0, []) := by decide +kernel
theorem kc_76_75 : xe_code 76 75 = some (.bipush 20, []) := by decide +kernel
theorem kc_76_77 : xe_code 76 77 = some (.anewarray 53, [6, 343]) := by decide +kernel
theorem kc_76_80 : xe_code 76 80 = some (.putfield 55, [0, 6, 375]) := by decide +kernel
theorem kc_76_83 : xe_code 76 83 = some (.aload_n 0, []) := by decide +kernel
theorem kc_76_84 : xe_code 76 84 = some (.bipush 7, []) := by decide +kernel
theorem kc_76_86 : xe_code 76 86 = some (.newarray .int, [0, 109]) := by decide +kernel
theorem kc_76_88 : xe_code 76 88 = some (.putfield 59, [0, 7, 376]) := by decide +kernel
theorem kc_76_91 : xe_code 76 91 = some (.iconst 0, []) := by decide +kernel
theorem kc_76_92 : xe_code 76 92 = some (.istore_n 1, []) := by decide +kernel
theorem kc_76_93 : xe_code 76 93 = some (.iload_n 1, []) := by decide +kernel
theorem kc_76_94 : xe_code 76 94 = some (.bipush 20, []) := by decide +kernel
theorem kc_76_96 : xe_code 76 96 = some (.if_icmp .ge 22, [118]) := by decide +kernel
theorem kc_76_99 : xe_code 76 99 = some (.aload_n 0, []) := by decide +kernel
theorem kc_76_100 : xe_code 76 100 = some (.getfield 55, [0, 6, 375]) := by decide +kernel
theorem kc_76_103 : xe_code 76 103 = some (.iload_n 1, []) := by decide +kernel
theorem kc_76_104 : xe_code 76 104 = some (.new 53, [10, 343]) := by decide +kernel
theorem kc_76_107 : xe_code 76 107 = some (.dup, []) := by decide +kernel
theorem kc_76_108 : xe_code 76 108 = some (.invokespecial 63, [87, 0, 346, 10]) := by decide +kernel
theorem kc_76_111 : xe_code 76 111 = some (.aastore, []) := by decide +kernel
theorem kc_76_112 : xe_code 76 112 = some (.iinc 1 1, []) := by decide +kernel
theorem kc_76_115 : xe_code 76 115 = some (.goto (-22), [93]) := by decide +kernel
theorem kc_76_118 : xe_code 76 118 = some (.aload_n 0, []) := by decide +kernel
theorem kc_76_119 : xe_code 76 119 = some (.getfield 19, [0, 1, 370]) := by decide +kernel
theorem kc_76_122 : xe_code 76 122 = some (.bipush 63, []) := by decide +kernel
theorem kc_76_124 : xe_code 76 124 = some (.putfield 64, [9, 3, 212]) := by decide +kernel
theorem kc_76_127 : xe_code 76 127 = some (.return_, []) := by decide +kernel
theorem kc_77_0 : xe_code 77 0 = some (.aload_n 0, []) := by decide +kernel
theorem kc_77_1 : xe_code 77 1 = some (.invokespecial 3, [0, 0, 83, 0]) := by decide +kernel
theorem kc_77_4 : xe_code 77 4 = some (.aload_n 0, []) := by decide +kernel
theorem kc_77_5 : xe_code 77 5 = some (.bipush 6, []) := by decide +kernel
theorem kc_77_7 : xe_code 77 7 = some (.anewarray 9, [3, 84]) := by decide +kernel
theorem kc_77_10 : xe_code 77 10 = some (.putfield 11, [4, 0, 170]) := by decide +kernel
theorem kc_77_13 : xe_code 77 13 = some (.aload_n 0, []) := by decide +kernel
theorem kc_77_14 : xe_code 77 14 = some (.bipush 12, []) := by decide +kernel
theorem kc_77_16 : xe_code 77 16 = some (.anewarray 17, [4, 86]) := by decide +kernel
theorem kc_77_19 : xe_code 77 19 = some (.putfield 19, [4, 1, 172]) := by decide +kernel
theorem kc_77_22 : xe_code 77 22 = some (.aload_n 0, []) := by decide +kernel
theorem kc_77_23 : xe_code 77 23 = some (.bipush 10, []) := by decide +kernel
theorem kc_77_25 : xe_code 77 25 = some (.anewarray 23, [5, 88]) := by decide +kernel
theorem kc_77_28 : xe_code 77 28 = some (.putfield 25, [4, 2, 174]) := by decide +kernel
theorem kc_77_31 : xe_code 77 31 = some (.aload_n 0, []) := by decide +kernel
theorem kc_77_32 : xe_code 77 32 = some (.new 29, [8, 90]) := by decide +kernel
theorem kc_77_35 : xe_code 77 35 = some (.dup, []) := by decide +kernel
theorem kc_77_36 : xe_code 77 36 = some (.iconst 5, []) := by decide +kernel
theorem kc_77_37 : xe_code 77 37 = some (.invokespecial 31, [78, 1, 92, 8]) := by decide +kernel
theorem kc_77_40 : xe_code 77 40 = some (.putfield 34, [4, 3, 175]) := by decide +kernel
theorem kc_77_43 : xe_code 77 43 = some (.aload_n 0, []) := by decide +kernel
theorem kc_77_44 : xe_code 77 44 = some (.new 29, [8, 90]) := by decide +kernel
theorem kc_77_47 : xe_code 77 47 = some (.dup, []) := by decide +kernel
theorem kc_77_48 : xe_code 77 48 = some (.iconst 0, []) := by decide +kernel
theorem kc_77_49 : xe_code 77 49 = some (.invokespecial 31, [78, 1, 92, 8]) := by decide +kernel
theorem kc_77_52 : xe_code 77 52 = some (.putfield 38, [4, 4, 176]) := by decide +kernel
theorem kc_77_55 : xe_code 77 55 = some (.aload_n 0, []) := by decide +kernel
theorem kc_77_56 : xe_code 77 56 = some (.iconst 4, []) := by decide +kernel
theorem kc_77_57 : xe_code 77 57 = some (.putfield 41, [4, 6, 179]) := by decide +kernel
theorem kc_77_60 : xe_code 77 60 = some (.iconst 0, []) := by decide +kernel
theorem kc_77_61 : xe_code 77 61 = some (.istore_n 1, []) := by decide +kernel
theorem kc_77_62 : xe_code 77 62 = some (.iload_n 1, []) := by decide +kernel
theorem kc_77_63 : xe_code 77 63 = some (.bipush 6, []) := by decide +kernel
theorem kc_77_65 : xe_code 77 65 = some (.if_icmp .ge 22, [87]) := by decide +kernel
theorem kc_77_68 : xe_code 77 68 = some (.aload_n 0, []) := by decide +kernel
theorem kc_77_69 : xe_code 77 69 = some (.getfield 11, [4, 0, 170]) := by decide +kernel
theorem kc_77_72 : xe_code 77 72 = some (.iload_n 1, []) := by decide +kernel
theorem kc_77_73 : xe_code 77 73 = some (.new 9, [7, 84]) := by decide +kernel
theorem kc_77_76 : xe_code 77 76 = some (.dup, []) := by decide +kernel
theorem kc_77_77 : xe_code 77 77 = some (.invokespecial 45, [79, 0, 111, 7]) := by decide +kernel
theorem kc_77_80 : xe_code 77 80 = some (.aastore, []) := by decide +kernel
theorem kc_77_81 : xe_code 77 81 = some (.iinc 1 1, []) := by decide +kernel
theorem kc_77_84 : xe_code 77 84 = some (.goto (-22), [62]) := by decide +kernel
theorem kc_77_87 : xe_code 77 87 = some (.iconst 0, []) := by decide +kernel
theorem kc_77_88 : xe_code 77 88 = some (.istore_n 1, []) := by decide +kernel
theorem kc_77_89 : xe_code 77 89 = some (.iload_n 1, []) := by decide +kernel
theorem kc_77_90 : xe_code 77 90 = some (.bipush 12, []) := by decide +kernel
theorem kc_77_92 : xe_code 77 92 = some (.if_icmp .ge 22, [114]) := by decide +kernel
theorem kc_77_95 : xe_code 77 95 = some (.aload_n 0, []) := by decide +kernel
theorem kc_77_96 : xe_code 77 96 = some (.getfield 19, [4, 1, 172]) := by decide +kernel
theorem kc_77_99 : xe_code 77 99 = some (.iload_n 1, []) := by decide +kernel
theorem kc_77_100 : xe_code 77 100 = some (.new 17, [11, 86]) := by decide +kernel
theorem kc_77_103 : xe_code 77 103 = some (.dup, []) := by decide +kernel
theorem kc_77_104 : xe_code 77 104 = some (.invokespecial 46, [80, 0, 126, 11]) := by decide +kernel
theorem kc_77_107 : xe_code 77 107 = some (.aastore, []) := by decide +kernel
theorem kc_77_108 : xe_code 77 108 = some (.iinc 1 1, []) := by decide +kernel
theorem kc_77_111 : xe_code 77 111 = some (.goto (-22), [89]) := by decide +kernel
theorem kc_77_114 : xe_code 77 114 = some (.iconst 0, []) := by decide +kernel
theorem kc_77_115 : xe_code 77 115 = some (.istore_n 1, []) := by decide +kernel
theorem kc_77_116 : xe_code 77 116 = some (.iload_n 1, []) := by decide +kernel
theorem kc_77_117 : xe_code 77 117 = some (.bipush 10, []) := by decide +kernel
theorem kc_77_119 : xe_code 77 119 = some (.if_icmp .ge 22, [141]) := by decide +kernel
theorem kc_77_122 : xe_code 77 122 = some (.aload_n 0, []) := by decide +kernel
theorem kc_77_123 : xe_code 77 123 = some (.getfield 25, [4, 2, 174]) := by decide +kernel
theorem kc_77_126 : xe_code 77 126 = some (.iload_n 1, []) := by decide +kernel
theorem kc_77_127 : xe_code 77 127 = some (.new 23, [1, 88]) := by decide +kernel
theorem kc_77_130 : xe_code 77 130 = some (.dup, []) := by decide +kernel
theorem kc_77_131 : xe_code 77 131 = some (.invokespecial 47, [81, 0, 153, 1]) := by decide +kernel
theorem kc_77_134 : xe_code 77 134 = some (.aastore, []) := by decide +kernel
theorem kc_77_135 : xe_code 77 135 = some (.iinc 1 1, []) := by decide +kernel
theorem kc_77_138 : xe_code 77 138 = some (.goto (-22), [116]) := by decide +kernel
theorem kc_77_141 : xe_code 77 141 = some (.return_, []) := by decide +kernel
theorem kc_78_0 : xe_code 78 0 = some (.aload_n 0, []) := by decide +kernel
theorem kc_78_1 : xe_code 78 1 = some (.invokespecial 3, [0, 0, 95, 0]) := by decide +kernel
theorem kc_78_4 : xe_code 78 4 = some (.aload_n 0, []) := by decide +kernel
theorem kc_78_5 : xe_code 78 5 = some (.sipush 601, []) := by decide +kernel
theorem kc_78_8 : xe_code 78 8 = some (.newarray .int, [0, 109]) := by decide +kernel
theorem kc_78_10 : xe_code 78 10 = some (.putfield 9, [8, 1, 100]) := by decide +kernel
theorem kc_78_13 : xe_code 78 13 = some (.aload_n 0, []) := by decide +kernel
theorem kc_78_14 : xe_code 78 14 = some (.sipush 601, []) := by decide +kernel
theorem kc_78_17 : xe_code 78 17 = some (.newarray .int, [0, 109]) := by decide +kernel
theorem kc_78_19 : xe_code 78 19 = some (.putfield 15, [8, 2, 101]) := by decide +kernel
theorem kc_78_22 : xe_code 78 22 = some (.aload_n 0, []) := by decide +kernel
theorem kc_78_23 : xe_code 78 23 = some (.iload_n 1, []) := by decide +kernel
theorem kc_78_24 : xe_code 78 24 = some (.putfield 18, [8, 0, 99]) := by decide +kernel
theorem kc_78_27 : xe_code 78 27 = some (.aload_n 0, []) := by decide +kernel
theorem kc_78_28 : xe_code 78 28 = some (.getfield 9, [8, 1, 100]) := by decide +kernel
theorem kc_78_31 : xe_code 78 31 = some (.bipush 99, []) := by decide +kernel
theorem kc_78_33 : xe_code 78 33 = some (.invokestatic 22, [1, 2, 96, 0]) := by decide +kernel
theorem kc_78_36 : xe_code 78 36 = some (.aload_n 0, []) := by decide +kernel
theorem kc_78_37 : xe_code 78 37 = some (.getfield 15, [8, 2, 101]) := by decide +kernel
theorem kc_78_40 : xe_code 78 40 = some (.iload_n 1, []) := by decide +kernel
theorem kc_78_41 : xe_code 78 41 = some (.invokestatic 22, [1, 2, 96, 0]) := by decide +kernel
theorem kc_78_44 : xe_code 78 44 = some (.return_, []) := by decide +kernel
theorem kc_79_0 : xe_code 79 0 = some (.aload_n 0, []) := by decide +kernel
theorem kc_79_1 : xe_code 79 1 = some (.invokespecial 3, [0, 0, 114, 0]) := by decide +kernel
theorem kc_79_4 : xe_code 79 4 = some (.aload_n 0, []) := by decide +kernel
theorem kc_79_5 : xe_code 79 5 = some (.iconst 5, []) := by decide +kernel
theorem kc_79_6 : xe_code 79 6 = some (.newarray .int, [0, 109]) := by decide +kernel
theorem kc_79_8 : xe_code 79 8 = some (.dup, []) := by decide +kernel
theorem kc_79_9 : xe_code 79 9 = some (.iconst 0, []) := by decide +kernel
theorem kc_79_10 : xe_code 79 10 = some (.bipush 40, []) := by decide +kernel
theorem kc_79_12 : xe_code 79 12 = some (.iastore, []) := by decide +kernel
theorem kc_79_13 : xe_code 79 13 = some (.dup, []) := by decide +kernel
theorem kc_79_14 : xe_code 79 14 = some (.iconst 1, []) := by decide +kernel
theorem kc_79_15 : xe_code 79 15 = some (.bipush 18, []) := by decide +kernel
theorem kc_79_17 : xe_code 79 17 = some (.iastore, []) := by decide +kernel
theorem kc_79_18 : xe_code 79 18 = some (.dup, []) := by decide +kernel
theorem kc_79_19 : xe_code 79 19 = some (.iconst 2, []) := by decide +kernel
theorem kc_79_20 : xe_code 79 20 = some (.bipush 10, []) := by decide +kernel
theorem kc_79_22 : xe_code 79 22 = some (.iastore, []) := by decide +kernel
theorem kc_79_23 : xe_code 79 23 = some (.dup, []) := by decide +kernel
theorem kc_79_24 : xe_code 79 24 = some (.iconst 3, []) := by decide +kernel
theorem kc_79_25 : xe_code 79 25 = some (.iconst 0, []) := by decide +kernel
theorem kc_79_26 : xe_code 79 26 = some (.iastore, []) := by decide +kernel
theorem kc_79_27 : xe_code 79 27 = some (.dup, []) := by decide +kernel
theorem kc_79_28 : xe_code 79 28 = some (.iconst 4, []) := by decide +kernel
theorem kc_79_29 : xe_code 79 29 = some (.iconst 0, []) := by decide +kernel
theorem kc_79_30 : xe_code 79 30 = some (.iastore, []) := by decide +kernel
theorem kc_79_31 : xe_code 79 31 = some (.putfield 9, [7, 0, 115]) := by decide +kernel
theorem kc_79_34 : xe_code 79 34 = some (.aload_n 0, []) := by decide +kernel
theorem kc_79_35 : xe_code 79 35 = some (.bipush 24, []) := by decide +kernel
theorem kc_79_37 : xe_code 79 37 = some (.newarray .int, [0, 109]) := by decide +kernel
theorem kc_79_39 : xe_code 79 39 = some (.putfield 15, [7, 1, 117]) := by decide +kernel
theorem kc_79_42 : xe_code 79 42 = some (.return_, []) := by decide +kernel
theorem kc_80_0 : xe_code 80 0 = some (.aload_n 0, []) := by decide +kernel
theorem kc_80_1 : xe_code 80 1 = some (.invokespecial 3, [0, 0, 129, 0]) := by decide +kernel
theorem kc_80_4 : xe_code 80 4 = some (.aload_n 0, []) := by decide +kernel
theorem kc_80_5 : xe_code 80 5 = some (.bipush (-9), []) := by decide +kernel
theorem kc_80_7 : xe_code 80 7 = some (.putfield 9, [11, 0, 130]) := by decide +kernel
theorem kc_80_10 : xe_code 80 10 = some (.aload_n 0, []) := by decide +kernel
theorem kc_80_11 : xe_code 80 11 = some (.sipush 600, []) := by decide +kernel
theorem kc_80_14 : xe_code 80 14 = some (.newarray .int, [0, 109]) := by decide +kernel
theorem kc_80_16 : xe_code 80 16 = some (.putfield 15, [11, 4, 139]) := by decide +kernel
theorem kc_80_19 : xe_code 80 19 = some (.return_, []) := by decide +kernel
theorem kc_81_0 : xe_code 81 0 = some (.aload_n 0, []) := by decide +kernel
theorem kc_81_1 : xe_code 81 1 = some (.invokespecial 1, [0, 0, 156, 0]) := by decide +kernel
theorem kc_81_4 : xe_code 81 4 = some (.return_, []) := by decide +kernel
theorem kc_82_0 : xe_code 82 0 = some (.aload_n 0, []) := by decide +kernel
theorem kc_82_1 : xe_code 82 1 = some (.invokespecial 3, [0, 0, 201, 0]) := by decide +kernel
theorem kc_82_4 : xe_code 82 4 = some (.aload_n 0, []) := by decide +kernel
theorem kc_82_5 : xe_code 82 5 = some (.bipush 6, []) := by decide +kernel
theorem kc_82_7 : xe_code 82 7 = some (.newarray .int, [0, 109]) := by decide +kernel
theorem kc_82_9 : xe_code 82 9 = some (.putfield 9, [9, 0, 202]) := by decide +kernel
theorem kc_82_12 : xe_code 82 12 = some (.aload_n 0, []) := by decide +kernel
theorem kc_82_13 : xe_code 82 13 = some (.bipush 12, []) := by decide +kernel
theorem kc_82_15 : xe_code 82 15 = some (.newarray .int, [0, 109]) := by decide +kernel
theorem kc_82_17 : xe_code 82 17 = some (.putfield 15, [9, 1, 205]) := by decide +kernel
theorem kc_82_20 : xe_code 82 20 = some (.return_, []) := by decide +kernel
theorem kc_83_0 : xe_code 83 0 = some (.aload_n 0, []) := by decide +kernel
theorem kc_83_1 : xe_code 83 1 = some (.invokespecial 3, [0, 0, 229, 0]) := by decide +kernel
theorem kc_83_4 : xe_code 83 4 = some (.aload_n 0, []) := by decide +kernel
theorem kc_83_5 : xe_code 83 5 = some (.new 9, [9, 230]) := by decide +kernel
theorem kc_83_8 : xe_code 83 8 = some (.dup, []) := by decide +kernel
theorem kc_83_9 : xe_code 83 9 = some (.invokespecial 11, [82, 0, 231, 9]) := by decide +kernel
theorem kc_83_12 : xe_code 83 12 = some (.putfield 12, [3, 1, 233]) := by decide +kernel
theorem kc_83_15 : xe_code 83 15 = some (.aload_n 0, []) := by decide +kernel
theorem kc_83_16 : xe_code 83 16 = some (.bipush 60, []) := by decide +kernel
theorem kc_83_18 : xe_code 83 18 = some (.newarray .int, [0, 109]) := by decide +kernel
theorem kc_83_20 : xe_code 83 20 = some (.putfield 18, [3, 2, 234]) := by decide +kernel
theorem kc_83_23 : xe_code 83 23 = some (.aload_n 0, []) := by decide +kernel
theorem kc_83_24 : xe_code 83 24 = some (.bipush 60, []) := by decide +kernel
theorem kc_83_26 : xe_code 83 26 = some (.newarray .int, [0, 109]) := by decide +kernel
theorem kc_83_28 : xe_code 83 28 = some (.putfield 22, [3, 3, 235]) := by decide +kernel
theorem kc_83_31 : xe_code 83 31 = some (.aload_n 0, []) := by decide +kernel
theorem kc_83_32 : xe_code 83 32 = some (.bipush 60, []) := by decide +kernel
theorem kc_83_34 : xe_code 83 34 = some (.newarray .int, [0, 109]) := by decide +kernel
theorem kc_83_36 : xe_code 83 36 = some (.putfield 25, [3, 4, 236]) := by decide +kernel
theorem kc_83_39 : xe_code 83 39 = some (.aload_n 0, []) := by decide +kernel
theorem kc_83_40 : xe_code 83 40 = some (.bipush 60, []) := by decide +kernel
theorem kc_83_42 : xe_code 83 42 = some (.newarray .int, [0, 109]) := by decide +kernel
theorem kc_83_44 : xe_code 83 44 = some (.putfield 28, [3, 5, 237]) := by decide +kernel
theorem kc_83_47 : xe_code 83 47 = some (.aload_n 0, []) := by decide +kernel
theorem kc_83_48 : xe_code 83 48 = some (.bipush 64, []) := by decide +kernel
theorem kc_83_50 : xe_code 83 50 = some (.newarray .long, [1, 261]) := by decide +kernel
theorem kc_83_52 : xe_code 83 52 = some (.putfield 31, [3, 6, 238]) := by decide +kernel
theorem kc_83_55 : xe_code 83 55 = some (.aload_n 0, []) := by decide +kernel
theorem kc_83_56 : xe_code 83 56 = some (.aload_n 1, []) := by decide +kernel
theorem kc_83_57 : xe_code 83 57 = some (.putfield 35, [3, 0, 232]) := by decide +kernel
theorem kc_83_60 : xe_code 83 60 = some (.return_, []) := by decide +kernel
theorem kc_84_0 : xe_code 84 0 = some (.aload_n 0, []) := by decide +kernel
theorem kc_84_1 : xe_code 84 1 = some (.invokespecial 3, [0, 0, 267, 0]) := by decide +kernel
theorem kc_84_4 : xe_code 84 4 = some (.aload_n 0, []) := by decide +kernel
theorem kc_84_5 : xe_code 84 5 = some (.bipush 8, []) := by decide +kernel
theorem kc_84_7 : xe_code 84 7 = some (.newarray .long, [1, 261]) := by decide +kernel
theorem kc_84_9 : xe_code 84 9 = some (.putfield 9, [6, 0, 268]) := by decide +kernel
theorem kc_84_12 : xe_code 84 12 = some (.aload_n 0, []) := by decide +kernel
theorem kc_84_13 : xe_code 84 13 = some (.bipush 8, []) := by decide +kernel
theorem kc_84_15 : xe_code 84 15 = some (.newarray .int, [0, 109]) := by decide +kernel
theorem kc_84_17 : xe_code 84 17 = some (.putfield 15, [6, 1, 269]) := by decide +kernel
theorem kc_84_20 : xe_code 84 20 = some (.aload_n 0, []) := by decide +kernel
theorem kc_84_21 : xe_code 84 21 = some (.sipush 6561, []) := by decide +kernel
theorem kc_84_24 : xe_code 84 24 = some (.newarray .int, [0, 109]) := by decide +kernel
theorem kc_84_26 : xe_code 84 26 = some (.putfield 19, [6, 2, 270]) := by decide +kernel
theorem kc_84_29 : xe_code 84 29 = some (.aload_n 0, []) := by decide +kernel
theorem kc_84_30 : xe_code 84 30 = some (.bipush 8, []) := by decide +kernel
theorem kc_84_32 : xe_code 84 32 = some (.newarray .int, [0, 109]) := by decide +kernel
theorem kc_84_34 : xe_code 84 34 = some (.putfield 22, [6, 3, 271]) := by decide +kernel
theorem kc_84_37 : xe_code 84 37 = some (.return_, []) := by decide +kernel
theorem kc_85_0 : xe_code 85 0 = some (.aload_n 0, []) := by decide +kernel
theorem kc_85_1 : xe_code 85 1 = some (.invokespecial 3, [0, 0, 291, 0]) := by decide +kernel
theorem kc_85_4 : xe_code 85 4 = some (.aload_n 0, []) := by decide +kernel
theorem kc_85_5 : xe_code 85 5 = some (.bipush 24, []) := by decide +kernel
theorem kc_85_7 : xe_code 85 7 = some (.newarray .int, [0, 109]) := by decide +kernel
theorem kc_85_9 : xe_code 85 9 = some (.putfield 9, [2, 0, 293]) := by decide +kernel
theorem kc_85_12 : xe_code 85 12 = some (.aload_n 0, []) := by decide +kernel
theorem kc_85_13 : xe_code 85 13 = some (.bipush 24, []) := by decide +kernel
theorem kc_85_15 : xe_code 85 15 = some (.newarray .int, [0, 109]) := by decide +kernel
theorem kc_85_17 : xe_code 85 17 = some (.putfield 15, [2, 1, 294]) := by decide +kernel
theorem kc_85_20 : xe_code 85 20 = some (.aload_n 0, []) := by decide +kernel
theorem kc_85_21 : xe_code 85 21 = some (.bipush 24, []) := by decide +kernel
theorem kc_85_23 : xe_code 85 23 = some (.newarray .int, [0, 109]) := by decide +kernel
theorem kc_85_25 : xe_code 85 25 = some (.putfield 18, [2, 2, 295]) := by decide +kernel
theorem kc_85_28 : xe_code 85 28 = some (.aload_n 0, []) := by decide +kernel
theorem kc_85_29 : xe_code 85 29 = some (.bipush 16, []) := by decide +kernel
theorem kc_85_31 : xe_code 85 31 = some (.newarray .int, [0, 109]) := by decide +kernel
theorem kc_85_33 : xe_code 85 33 = some (.putfield 21, [2, 3, 296]) := by decide +kernel
theorem kc_85_36 : xe_code 85 36 = some (.aload_n 0, []) := by decide +kernel
theorem kc_85_37 : xe_code 85 37 = some (.getfield 18, [2, 2, 295]) := by decide +kernel
theorem kc_85_40 : xe_code 85 40 = some (.iconst 2, []) := by decide +kernel
theorem kc_85_41 : xe_code 85 41 = some (.invokestatic 24, [1, 2, 292, 0]) := by decide +kernel
theorem kc_85_44 : xe_code 85 44 = some (.return_, []) := by decide +kernel
theorem kc_86_0 : xe_code 86 0 = some (.aload_n 0, []) := by decide +kernel
theorem kc_86_1 : xe_code 86 1 = some (.invokespecial 3, [0, 0, 311, 0]) := by decide +kernel
theorem kc_86_4 : xe_code 86 4 = some (.aload_n 0, []) := by decide +kernel
theorem kc_86_5 : xe_code 86 5 = some (.bipush 12, []) := by decide +kernel
theorem kc_86_7 : xe_code 86 7 = some (.newarray .int, [0, 109]) := by decide +kernel
theorem kc_86_9 : xe_code 86 9 = some (.putfield 9, [5, 0, 313]) := by decide +kernel
theorem kc_86_12 : xe_code 86 12 = some (.aload_n 0, []) := by decide +kernel
theorem kc_86_13 : xe_code 86 13 = some (.bipush 12, []) := by decide +kernel
theorem kc_86_15 : xe_code 86 15 = some (.newarray .int, [0, 109]) := by decide +kernel
theorem kc_86_17 : xe_code 86 17 = some (.putfield 15, [5, 1, 314]) := by decide +kernel
theorem kc_86_20 : xe_code 86 20 = some (.aload_n 0, []) := by decide +kernel
theorem kc_86_21 : xe_code 86 21 = some (.bipush 12, []) := by decide +kernel
theorem kc_86_23 : xe_code 86 23 = some (.newarray .int, [0, 109]) := by decide +kernel
theorem kc_86_25 : xe_code 86 25 = some (.putfield 18, [5, 2, 315]) := by decide +kernel
theorem kc_86_28 : xe_code 86 28 = some (.aload_n 0, []) := by decide +kernel
theorem kc_86_29 : xe_code 86 29 = some (.bipush 12, []) := by decide +kernel
theorem kc_86_31 : xe_code 86 31 = some (.newarray .int, [0, 109]) := by decide +kernel
theorem kc_86_33 : xe_code 86 33 = some (.putfield 21, [5, 3, 316]) := by decide +kernel
theorem kc_86_36 : xe_code 86 36 = some (.aload_n 0, []) := by decide +kernel
theorem kc_86_37 : xe_code 86 37 = some (.iconst 4, []) := by decide +kernel
theorem kc_86_38 : xe_code 86 38 = some (.newarray .int, [0, 109]) := by decide +kernel
theorem kc_86_40 : xe_code 86 40 = some (.putfield 24, [5, 4, 317]) := by decide +kernel
theorem kc_86_43 : xe_code 86 43 = some (.aload_n 0, []) := by decide +kernel
theorem kc_86_44 : xe_code 86 44 = some (.iconst 4, []) := by decide +kernel
theorem kc_86_45 : xe_code 86 45 = some (.newarray .int, [0, 109]) := by decide +kernel
theorem kc_86_47 : xe_code 86 47 = some (.putfield 27, [5, 5, 318]) := by decide +kernel
theorem kc_86_50 : xe_code 86 50 = some (.aload_n 0, []) := by decide +kernel
theorem kc_86_51 : xe_code 86 51 = some (.iconst 4, []) := by decide +kernel
theorem kc_86_52 : xe_code 86 52 = some (.newarray .int, [0, 109]) := by decide +kernel
theorem kc_86_54 : xe_code 86 54 = some (.putfield 30, [5, 6, 319]) := by decide +kernel
theorem kc_86_57 : xe_code 86 57 = some (.aload_n 0, []) := by decide +kernel
theorem kc_86_58 : xe_code 86 58 = some (.getfield 30, [5, 6, 319]) := by decide +kernel
theorem kc_86_61 : xe_code 86 61 = some (.bipush (-9), []) := by decide +kernel
theorem kc_86_63 : xe_code 86 63 = some (.invokestatic 33, [1, 2, 312, 0]) := by decide +kernel
theorem kc_86_66 : xe_code 86 66 = some (.return_, []) := by decide +kernel
theorem kc_87_0 : xe_code 87 0 = some (.aload_n 0, []) := by decide +kernel
theorem kc_87_1 : xe_code 87 1 = some (.invokespecial 1, [0, 0, 349, 0]) := by decide +kernel
theorem kc_87_4 : xe_code 87 4 = some (.return_, []) := by decide +kernel
theorem kc_88_0 : xe_code 88 0 = some (.iload_n 1, []) := by decide +kernel
theorem kc_88_1 : xe_code 88 1 = some (.invokestatic 68, [89, 1, 404, 0]) := by decide +kernel
theorem kc_88_4 : xe_code 88 4 = some (.ifCond .ne 9, [13]) := by decide +kernel
theorem kc_88_7 : xe_code 88 7 = some (.aload_n 0, []) := by decide +kernel
theorem kc_88_8 : xe_code 88 8 = some (.iconst (-1), []) := by decide +kernel
theorem kc_88_9 : xe_code 88 9 = some (.invokevirtual 72, [90, 1, 407, 0]) := by decide +kernel
theorem kc_88_12 : xe_code 88 12 = some (.ireturn, []) := by decide +kernel
theorem kc_88_13 : xe_code 88 13 = some (.iload_n 2, []) := by decide +kernel
theorem kc_88_14 : xe_code 88 14 = some (.ifCond .lt 8, [22]) := by decide +kernel
theorem kc_88_17 : xe_code 88 17 = some (.iload_n 2, []) := by decide +kernel
theorem kc_88_18 : xe_code 88 18 = some (.iconst 5, []) := by decide +kernel
theorem kc_88_19 : xe_code 88 19 = some (.if_icmp .le 10, [29]) := by decide +kernel
theorem kc_88_22 : xe_code 88 22 = some (.aload_n 0, []) := by decide +kernel
theorem kc_88_23 : xe_code 88 23 = some (.bipush (-2), []) := by decide +kernel
theorem kc_88_25 : xe_code 88 25 = some (.invokevirtual 72, [90, 1, 407, 0]) := by decide +kernel
theorem kc_88_28 : xe_code 88 28 = some (.ireturn, []) := by decide +kernel
theorem kc_88_29 : xe_code 88 29 = some (.iload_n 3, []) := by decide +kernel
theorem kc_88_30 : xe_code 88 30 = some (.getstatic 76, [1, 411]) := by decide +kernel
theorem kc_88_33 : xe_code 88 33 = some (.iload_n 2, []) := by decide +kernel
theorem kc_88_34 : xe_code 88 34 = some (.iaload, []) := by decide +kernel
theorem kc_88_35 : xe_code 88 35 = some (.if_icmp .ge 10, [45]) := by decide +kernel
theorem kc_88_38 : xe_code 88 38 = some (.aload_n 0, []) := by decide +kernel
theorem kc_88_39 : xe_code 88 39 = some (.bipush (-4), []) := by decide +kernel
theorem kc_88_41 : xe_code 88 41 = some (.invokevirtual 72, [90, 1, 407, 0]) := by decide +kernel
theorem kc_88_44 : xe_code 88 44 = some (.ireturn, []) := by decide +kernel
theorem kc_88_45 : xe_code 88 45 = some (.iload_n 3, []) := by decide +kernel
theorem kc_88_46 : xe_code 88 46 = some (.getstatic 79, [2, 413]) := by decide +kernel
theorem kc_88_49 : xe_code 88 49 = some (.iload_n 2, []) := by decide +kernel
theorem kc_88_50 : xe_code 88 50 = some (.iaload, []) := by decide +kernel
theorem kc_88_51 : xe_code 88 51 = some (.if_icmp .le 10, [61]) := by decide +kernel
theorem kc_88_54 : xe_code 88 54 = some (.aload_n 0, []) := by decide +kernel
theorem kc_88_55 : xe_code 88 55 = some (.bipush (-6), []) := by decide +kernel
theorem kc_88_57 : xe_code 88 57 = some (.invokevirtual 72, [90, 1, 407, 0]) := by decide +kernel
theorem kc_88_60 : xe_code 88 60 = some (.ireturn, []) := by decide +kernel
theorem kc_88_61 : xe_code 88 61 = some (.iload_n 2, []) := by decide +kernel
theorem kc_88_62 : xe_code 88 62 = some (.iconst 5, []) := by decide +kernel
theorem kc_88_63 : xe_code 88 63 = some (.if_icmp .ne 27, [90]) := by decide +kernel
theorem kc_88_66 : xe_code 88 66 = some (.aload_n 0, []) := by decide +kernel
theorem kc_88_67 : xe_code 88 67 = some (.getfield 19, [0, 1, 370]) := by decide +kernel
theorem kc_88_70 : xe_code 88 70 = some (.getfield 82, [9, 0, 203]) := by decide +kernel
theorem kc_88_73 : xe_code 88 73 = some (.iload_n 1, []) := by decide +kernel
theorem kc_88_74 : xe_code 88 74 = some (.iaload, []) := by decide +kernel
theorem kc_88_75 : xe_code 88 75 = some (.istore 4, []) := by decide +kernel
theorem kc_88_77 : xe_code 88 77 = some (.aload_n 0, []) := by decide +kernel
theorem kc_88_78 : xe_code 88 78 = some (.getfield 19, [0, 1, 370]) := by decide +kernel
theorem kc_88_81 : xe_code 88 81 = some (.getfield 82, [9, 0, 203]) := by decide +kernel
theorem kc_88_84 : xe_code 88 84 = some (.iload_n 1, []) := by decide +kernel
theorem kc_88_85 : xe_code 88 85 = some (.iload_n 3, []) := by decide +kernel
theorem kc_88_86 : xe_code 88 86 = some (.iastore, []) := by decide +kernel
theorem kc_88_87 : xe_code 88 87 = some (.iload 4, []) := by decide +kernel
theorem kc_88_89 : xe_code 88 89 = some (.ireturn, []) := by decide +kernel
theorem kc_88_90 : xe_code 88 90 = some (.aload_n 0, []) := by decide +kernel
theorem kc_88_91 : xe_code 88 91 = some (.getfield 28, [0, 2, 371]) := by decide +kernel
theorem kc_88_94 : xe_code 88 94 = some (.invokevirtual 85, [91, 0, 415, 3]) := by decide +kernel
theorem kc_88_97 : xe_code 88 97 = some (.aload_n 0, []) := by decide +kernel
theorem kc_88_98 : xe_code 88 98 = some (.getfield 10, [0, 0, 369]) := by decide +kernel
theorem kc_88_101 : xe_code 88 101 = some (.iload_n 1, []) := by decide +kernel
theorem kc_88_102 : xe_code 88 102 = some (.iload_n 2, []) := by decide +kernel
theorem kc_88_103 : xe_code 88 103 = some (.iload_n 3, []) := by decide +kernel
theorem kc_88_104 : xe_code 88 104 = some (.invokevirtual 88, [92, 3, 419, 4]) := by decide +kernel
theorem kc_88_107 : xe_code 88 107 = some (.ireturn, []) := by decide +kernel
theorem kc_89_0 : xe_code 89 0 = some (.iload_n 0, []) := by decide +kernel
theorem kc_89_1 : xe_code 89 1 = some (.ifCond .lt 13, [14]) := by decide +kernel
theorem kc_89_4 : xe_code 89 4 = some (.iload_n 0, []) := by decide +kernel
theorem kc_89_5 : xe_code 89 5 = some (.bipush 6, []) := by decide +kernel
theorem kc_89_7 : xe_code 89 7 = some (.if_icmp .ge 7, [14]) := by decide +kernel
theorem kc_89_10 : xe_code 89 10 = some (.iconst 1, []) := by decide +kernel
theorem kc_89_11 : xe_code 89 11 = some (.goto 4, [15]) := by decide +kernel
theorem kc_89_14 : xe_code 89 14 = some (.iconst 0, []) := by decide +kernel
theorem kc_89_15 : xe_code 89 15 = some (.ireturn, []) := by decide +kernel
theorem kc_90_0 : xe_code 90 0 = some (.iload_n 1, []) := by decide +kernel
theorem kc_90_1 : xe_code 90 1 = some (.ineg, []) := by decide +kernel
theorem kc_90_2 : xe_code 90 2 = some (.istore_n 2, []) := by decide +kernel
theorem kc_90_3 : xe_code 90 3 = some (.iload_n 2, []) := by decide +kernel
theorem kc_90_4 : xe_code 90 4 = some (.ifCond .lt 22, [26]) := by decide +kernel
theorem kc_90_7 : xe_code 90 7 = some (.iload_n 2, []) := by decide +kernel
theorem kc_90_8 : xe_code 90 8 = some (.aload_n 0, []) := by decide +kernel
theorem kc_90_9 : xe_code 90 9 = some (.getfield 59, [0, 7, 376]) := by decide +kernel
theorem kc_90_12 : xe_code 90 12 = some (.arraylength, []) := by decide +kernel
theorem kc_90_13 : xe_code 90 13 = some (.if_icmp .ge 13, [26]) := by decide +kernel
theorem kc_90_16 : xe_code 90 16 = some (.aload_n 0, []) := by decide +kernel
theorem kc_90_17 : xe_code 90 17 = some (.getfield 59, [0, 7, 376]) := by decide +kernel
theorem kc_90_20 : xe_code 90 20 = some (.iload_n 2, []) := by decide +kernel
theorem kc_90_21 : xe_code 90 21 = some (.dup2, []) := by decide +kernel
theorem kc_90_22 : xe_code 90 22 = some (.iaload, []) := by decide +kernel
theorem kc_90_23 : xe_code 90 23 = some (.iconst 1, []) := by decide +kernel
theorem kc_90_24 : xe_code 90 24 = some (.iadd, []) := by decide +kernel
theorem kc_90_25 : xe_code 90 25 = some (.iastore, []) := by decide +kernel
theorem kc_90_26 : xe_code 90 26 = some (.iload_n 1, []) := by decide +kernel
theorem kc_90_27 : xe_code 90 27 = some (.ireturn, []) := by decide +kernel
theorem kc_91_0 : xe_code 91 0 = some (.aload_n 0, []) := by decide +kernel
theorem kc_91_1 : xe_code 91 1 = some (.lconst 0, []) := by decide +kernel
theorem kc_91_2 : xe_code 91 2 = some (.putfield 39, [3, 7, 239]) := by decide +kernel
theorem kc_91_5 : xe_code 91 5 = some (.return_, []) := by decide +kernel
theorem kc_92_0 : xe_code 92 0 = some (.iload_n 1, []) := by decide +kernel
theorem kc_92_1 : xe_code 92 1 = some (.invokestatic 48, [89, 1, 423, 0]) := by decide +kernel
theorem kc_92_4 : xe_code 92 4 = some (.ifCond .eq 17, [21]) := by decide +kernel
theorem kc_92_7 : xe_code 92 7 = some (.aload_n 0, []) := by decide +kernel
theorem kc_92_8 : xe_code 92 8 = some (.getfield 11, [4, 0, 170]) := by decide +kernel
theorem kc_92_11 : xe_code 92 11 = some (.iload_n 1, []) := by decide +kernel
theorem kc_92_12 : xe_code 92 12 = some (.aaload, []) := by decide +kernel
theorem kc_92_13 : xe_code 92 13 = some (.iload_n 2, []) := by decide +kernel
theorem kc_92_14 : xe_code 92 14 = some (.iload_n 3, []) := by decide +kernel
theorem kc_92_15 : xe_code 92 15 = some (.invokevirtual 52, [93, 2, 424, 7]) := by decide +kernel
theorem kc_92_18 : xe_code 92 18 = some (.goto 4, [22]) := by decide +kernel
theorem kc_92_21 : xe_code 92 21 = some (.iconst 0, []) := by decide +kernel
theorem kc_92_22 : xe_code 92 22 = some (.ireturn, []) := by decide +kernel
theorem kc_93_0 : xe_code 93 0 = some (.iload_n 1, []) := by decide +kernel
theorem kc_93_1 : xe_code 93 1 = some (.ifCond .lt 8, [9]) := by decide +kernel
theorem kc_93_4 : xe_code 93 4 = some (.iload_n 1, []) := by decide +kernel
theorem kc_93_5 : xe_code 93 5 = some (.iconst 5, []) := by decide +kernel
theorem kc_93_6 : xe_code 93 6 = some (.if_icmp .lt 5, [11]) := by decide +kernel
theorem kc_93_9 : xe_code 93 9 = some (.iconst 0, []) := by decide +kernel
theorem kc_93_10 : xe_code 93 10 = some (.ireturn, []) := by decide +kernel
theorem kc_93_11 : xe_code 93 11 = some (.aload_n 0, []) := by decide +kernel
theorem kc_93_12 : xe_code 93 12 = some (.getfield 9, [7, 0, 115]) := by decide +kernel
theorem kc_93_15 : xe_code 93 15 = some (.iload_n 1, []) := by decide +kernel
theorem kc_93_16 : xe_code 93 16 = some (.iaload, []) := by decide +kernel
theorem kc_93_17 : xe_code 93 17 = some (.istore_n 3, []) := by decide +kernel
theorem kc_93_18 : xe_code 93 18 = some (.aload_n 0, []) := by decide +kernel
theorem kc_93_19 : xe_code 93 19 = some (.getfield 9, [7, 0, 115]) := by decide +kernel
theorem kc_93_22 : xe_code 93 22 = some (.iload_n 1, []) := by decide +kernel
theorem kc_93_23 : xe_code 93 23 = some (.iload_n 2, []) := by decide +kernel
theorem kc_93_24 : xe_code 93 24 = some (.iastore, []) := by decide +kernel
theorem kc_93_25 : xe_code 93 25 = some (.iload_n 3, []) := by decide +kernel
theorem kc_93_26 : xe_code 93 26 = some (.ireturn, []) := by decide +kernel
theorem kc_94_0 : xe_code 94 0 = some (.iload_n 1, []) := by decide +kernel
theorem kc_94_1 : xe_code 94 1 = some (.invokestatic 68, [89, 1, 404, 0]) := by decide +kernel
theorem kc_94_4 : xe_code 94 4 = some (.ifCond .eq 13, [17]) := by decide +kernel
theorem kc_94_7 : xe_code 94 7 = some (.iload_n 2, []) := by decide +kernel
theorem kc_94_8 : xe_code 94 8 = some (.ifCond .lt 9, [17]) := by decide +kernel
theorem kc_94_11 : xe_code 94 11 = some (.iload_n 2, []) := by decide +kernel
theorem kc_94_12 : xe_code 94 12 = some (.bipush 24, []) := by decide +kernel
theorem kc_94_14 : xe_code 94 14 = some (.if_icmp .lt 9, [23]) := by decide +kernel
theorem kc_94_17 : xe_code 94 17 = some (.aload_n 0, []) := by decide +kernel
theorem kc_94_18 : xe_code 94 18 = some (.iconst (-1), []) := by decide +kernel
theorem kc_94_19 : xe_code 94 19 = some (.invokevirtual 72, [90, 1, 407, 0]) := by decide +kernel
theorem kc_94_22 : xe_code 94 22 = some (.ireturn, []) := by decide +kernel
theorem kc_94_23 : xe_code 94 23 = some (.iload_n 3, []) := by decide +kernel
theorem kc_94_24 : xe_code 94 24 = some (.ifCond .ge 10, [34]) := by decide +kernel
theorem kc_94_27 : xe_code 94 27 = some (.aload_n 0, []) := by decide +kernel
theorem kc_94_28 : xe_code 94 28 = some (.bipush (-4), []) := by decide +kernel
theorem kc_94_30 : xe_code 94 30 = some (.invokevirtual 72, [90, 1, 407, 0]) := by decide +kernel
theorem kc_94_33 : xe_code 94 33 = some (.ireturn, []) := by decide +kernel
theorem kc_94_34 : xe_code 94 34 = some (.iload_n 3, []) := by decide +kernel
theorem kc_94_35 : xe_code 94 35 = some (.sipush 999, []) := by decide +kernel
theorem kc_94_38 : xe_code 94 38 = some (.if_icmp .le 10, [48]) := by decide +kernel
theorem kc_94_41 : xe_code 94 41 = some (.aload_n 0, []) := by decide +kernel
theorem kc_94_42 : xe_code 94 42 = some (.bipush (-6), []) := by decide +kernel
theorem kc_94_44 : xe_code 94 44 = some (.invokevirtual 72, [90, 1, 407, 0]) := by decide +kernel
theorem kc_94_47 : xe_code 94 47 = some (.ireturn, []) := by decide +kernel
theorem kc_94_48 : xe_code 94 48 = some (.aload_n 0, []) := by decide +kernel
theorem kc_94_49 : xe_code 94 49 = some (.getfield 28, [0, 2, 371]) := by decide +kernel
theorem kc_94_52 : xe_code 94 52 = some (.invokevirtual 85, [91, 0, 415, 3]) := by decide +kernel
theorem kc_94_55 : xe_code 94 55 = some (.aload_n 0, []) := by decide +kernel
theorem kc_94_56 : xe_code 94 56 = some (.getfield 10, [0, 0, 369]) := by decide +kernel
theorem kc_94_59 : xe_code 94 59 = some (.getfield 92, [4, 0, 171]) := by decide +kernel
theorem kc_94_62 : xe_code 94 62 = some (.iload_n 1, []) := by decide +kernel
theorem kc_94_63 : xe_code 94 63 = some (.aaload, []) := by decide +kernel
theorem kc_94_64 : xe_code 94 64 = some (.getfield 95, [7, 1, 118]) := by decide +kernel
theorem kc_94_67 : xe_code 94 67 = some (.astore 4, []) := by decide +kernel
theorem kc_94_69 : xe_code 94 69 = some (.aload 4, []) := by decide +kernel
theorem kc_94_71 : xe_code 94 71 = some (.iload_n 2, []) := by decide +kernel
theorem kc_94_72 : xe_code 94 72 = some (.iaload, []) := by decide +kernel
theorem kc_94_73 : xe_code 94 73 = some (.istore 5, []) := by decide +kernel
theorem kc_94_75 : xe_code 94 75 = some (.aload 4, []) := by decide +kernel
theorem kc_94_77 : xe_code 94 77 = some (.iload_n 2, []) := by decide +kernel
theorem kc_94_78 : xe_code 94 78 = some (.iload_n 3, []) := by decide +kernel
theorem kc_94_79 : xe_code 94 79 = some (.iastore, []) := by decide +kernel
theorem kc_94_80 : xe_code 94 80 = some (.iload 5, []) := by decide +kernel
theorem kc_94_82 : xe_code 94 82 = some (.ireturn, []) := by decide +kernel
theorem kc_95_0 : xe_code 95 0 = some (.iload_n 2, []) := by decide +kernel
theorem kc_95_1 : xe_code 95 1 = some (.ifCond .eq 15, [16]) := by decide +kernel
theorem kc_95_4 : xe_code 95 4 = some (.iload_n 2, []) := by decide +kernel
theorem kc_95_5 : xe_code 95 5 = some (.iconst 1, []) := by decide +kernel
theorem kc_95_6 : xe_code 95 6 = some (.if_icmp .eq 10, [16]) := by decide +kernel
theorem kc_95_9 : xe_code 95 9 = some (.aload_n 0, []) := by decide +kernel
theorem kc_95_10 : xe_code 95 10 = some (.bipush (-2), []) := by decide +kernel
theorem kc_95_12 : xe_code 95 12 = some (.invokevirtual 100, [96, 1, 436, 0]) := by decide +kernel
theorem kc_95_15 : xe_code 95 15 = some (.ireturn, []) := by decide +kernel
theorem kc_95_16 : xe_code 95 16 = some (.iload_n 2, []) := by decide +kernel
theorem kc_95_17 : xe_code 95 17 = some (.ifCond .ne 8, [25]) := by decide +kernel
theorem kc_95_20 : xe_code 95 20 = some (.bipush (-20), []) := by decide +kernel
theorem kc_95_22 : xe_code 95 22 = some (.goto 4, [26]) := by decide +kernel
theorem kc_95_25 : xe_code 95 25 = some (.iconst 0, []) := by decide +kernel
theorem kc_95_26 : xe_code 95 26 = some (.istore 4, []) := by decide +kernel
theorem kc_95_28 : xe_code 95 28 = some (.iload_n 2, []) := by decide +kernel
theorem kc_95_29 : xe_code 95 29 = some (.ifCond .ne 8, [37]) := by decide +kernel
theorem kc_95_32 : xe_code 95 32 = some (.bipush 30, []) := by decide +kernel
theorem kc_95_34 : xe_code 95 34 = some (.goto 5, [39]) := by decide +kernel
theorem kc_95_37 : xe_code 95 37 = some (.bipush 20, []) := by decide +kernel
theorem kc_95_39 : xe_code 95 39 = some (.istore 5, []) := by decide +kernel
theorem kc_95_41 : xe_code 95 41 = some (.iload_n 1, []) := by decide +kernel
theorem kc_95_42 : xe_code 95 42 = some (.ifCond .lt 9, [51]) := by decide +kernel
theorem kc_95_45 : xe_code 95 45 = some (.iload_n 3, []) := by decide +kernel
theorem kc_95_46 : xe_code 95 46 = some (.iload 4, []) := by decide +kernel
theorem kc_95_48 : xe_code 95 48 = some (.if_icmp .ge 10, [58]) := by decide +kernel
theorem kc_95_51 : xe_code 95 51 = some (.aload_n 0, []) := by decide +kernel
theorem kc_95_52 : xe_code 95 52 = some (.bipush (-4), []) := by decide +kernel
theorem kc_95_54 : xe_code 95 54 = some (.invokevirtual 100, [96, 1, 436, 0]) := by decide +kernel
theorem kc_95_57 : xe_code 95 57 = some (.ireturn, []) := by decide +kernel
theorem kc_95_58 : xe_code 95 58 = some (.iload_n 1, []) := by decide +kernel
theorem kc_95_59 : xe_code 95 59 = some (.sipush 600, []) := by decide +kernel
theorem kc_95_62 : xe_code 95 62 = some (.if_icmp .ge 15, [77]) := by decide +kernel
theorem kc_95_65 : xe_code 95 65 = some (.iload_n 3, []) := by decide +kernel
theorem kc_95_66 : xe_code 95 66 = some (.iload 5, []) := by decide +kernel
theorem kc_95_68 : xe_code 95 68 = some (.if_icmp .le 16, [84]) := by decide +kernel
theorem kc_95_71 : xe_code 95 71 = some (.iload_n 3, []) := by decide +kernel
theorem kc_95_72 : xe_code 95 72 = some (.bipush 99, []) := by decide +kernel
theorem kc_95_74 : xe_code 95 74 = some (.if_icmp .eq 10, [84]) := by decide +kernel
theorem kc_95_77 : xe_code 95 77 = some (.aload_n 0, []) := by decide +kernel
theorem kc_95_78 : xe_code 95 78 = some (.bipush (-6), []) := by decide +kernel
theorem kc_95_80 : xe_code 95 80 = some (.invokevirtual 100, [96, 1, 436, 0]) := by decide +kernel
theorem kc_95_83 : xe_code 95 83 = some (.ireturn, []) := by decide +kernel
theorem kc_95_84 : xe_code 95 84 = some (.aload_n 0, []) := by decide +kernel
theorem kc_95_85 : xe_code 95 85 = some (.getfield 28, [0, 2, 371]) := by decide +kernel
theorem kc_95_88 : xe_code 95 88 = some (.invokevirtual 85, [91, 0, 415, 3]) := by decide +kernel
theorem kc_95_91 : xe_code 95 91 = some (.aload_n 0, []) := by decide +kernel
theorem kc_95_92 : xe_code 95 92 = some (.getfield 10, [0, 0, 369]) := by decide +kernel
theorem kc_95_95 : xe_code 95 95 = some (.iload_n 2, []) := by decide +kernel
theorem kc_95_96 : xe_code 95 96 = some (.invokevirtual 103, [97, 1, 441, 4]) := by decide +kernel
theorem kc_95_99 : xe_code 95 99 = some (.iload_n 1, []) := by decide +kernel
theorem kc_95_100 : xe_code 95 100 = some (.iload_n 3, []) := by decide +kernel
theorem kc_95_101 : xe_code 95 101 = some (.invokevirtual 107, [98, 2, 445, 8]) := by decide +kernel
theorem kc_95_104 : xe_code 95 104 = some (.ireturn, []) := by decide +kernel
theorem kc_96_0 : xe_code 96 0 = some (.ldc_w 310, [1000000000, 440]) := by decide +kernel
theorem kc_96_3 : xe_code 96 3 = some (.aload_n 0, []) := by decide +kernel
theorem kc_96_4 : xe_code 96 4 = some (.iload_n 1, []) := by decide +kernel
theorem kc_96_5 : xe_code 96 5 = some (.invokevirtual 72, [90, 1, 407, 0]) := by decide +kernel
theorem kc_96_8 : xe_code 96 8 = some (.isub, []) := by decide +kernel
theorem kc_96_9 : xe_code 96 9 = some (.ireturn, []) := by decide +kernel
theorem kc_97_0 : xe_code 97 0 = some (.iload_n 1, []) := by decide +kernel
theorem kc_97_1 : xe_code 97 1 = some (.ifCond .ne 10, [11]) := by decide +kernel
theorem kc_97_4 : xe_code 97 4 = some (.aload_n 0, []) := by decide +kernel
theorem kc_97_5 : xe_code 97 5 = some (.getfield 34, [4, 3, 175]) := by decide +kernel
theorem kc_97_8 : xe_code 97 8 = some (.goto 7, [15]) := by decide +kernel
theorem kc_97_11 : xe_code 97 11 = some (.aload_n 0, []) := by decide +kernel
theorem kc_97_12 : xe_code 97 12 = some (.getfield 38, [4, 4, 176]) := by decide +kernel
theorem kc_97_15 : xe_code 97 15 = some (.areturn, []) := by decide +kernel
theorem kc_98_0 : xe_code 98 0 = some (.iload_n 1, []) := by decide +kernel
theorem kc_98_1 : xe_code 98 1 = some (.ifCond .lt 12, [13]) := by decide +kernel
theorem kc_98_4 : xe_code 98 4 = some (.iload_n 1, []) := by decide +kernel
theorem kc_98_5 : xe_code 98 5 = some (.aload_n 0, []) := by decide +kernel
theorem kc_98_6 : xe_code 98 6 = some (.getfield 9, [8, 1, 100]) := by decide +kernel
theorem kc_98_9 : xe_code 98 9 = some (.arraylength, []) := by decide +kernel
theorem kc_98_10 : xe_code 98 10 = some (.if_icmp .lt 6, [16]) := by decide +kernel
theorem kc_98_13 : xe_code 98 13 = some (.bipush 99, []) := by decide +kernel
theorem kc_98_15 : xe_code 98 15 = some (.ireturn, []) := by decide +kernel
theorem kc_98_16 : xe_code 98 16 = some (.aload_n 0, []) := by decide +kernel
theorem kc_98_17 : xe_code 98 17 = some (.getfield 9, [8, 1, 100]) := by decide +kernel
theorem kc_98_20 : xe_code 98 20 = some (.iload_n 1, []) := by decide +kernel
theorem kc_98_21 : xe_code 98 21 = some (.iaload, []) := by decide +kernel
theorem kc_98_22 : xe_code 98 22 = some (.istore_n 3, []) := by decide +kernel
theorem kc_98_23 : xe_code 98 23 = some (.aload_n 0, []) := by decide +kernel
theorem kc_98_24 : xe_code 98 24 = some (.getfield 9, [8, 1, 100]) := by decide +kernel
theorem kc_98_27 : xe_code 98 27 = some (.iload_n 1, []) := by decide +kernel
theorem kc_98_28 : xe_code 98 28 = some (.iload_n 2, []) := by decide +kernel
theorem kc_98_29 : xe_code 98 29 = some (.iastore, []) := by decide +kernel
theorem kc_98_30 : xe_code 98 30 = some (.aload_n 0, []) := by decide +kernel
theorem kc_98_31 : xe_code 98 31 = some (.iload_n 1, []) := by decide +kernel
theorem kc_98_32 : xe_code 98 32 = some (.iconst 1, []) := by decide +kernel
theorem kc_98_33 : xe_code 98 33 = some (.isub, []) := by decide +kernel
theorem kc_98_34 : xe_code 98 34 = some (.invokevirtual 28, [99, 1, 449, 8]) := by decide +kernel
theorem kc_98_37 : xe_code 98 37 = some (.istore 4, []) := by decide +kernel
theorem kc_98_39 : xe_code 98 39 = some (.iload_n 1, []) := by decide +kernel
theorem kc_98_40 : xe_code 98 40 = some (.istore 5, []) := by decide +kernel
theorem kc_98_42 : xe_code 98 42 = some (.iload 5, []) := by decide +kernel
theorem kc_98_44 : xe_code 98 44 = some (.aload_n 0, []) := by decide +kernel
theorem kc_98_45 : xe_code 98 45 = some (.getfield 9, [8, 1, 100]) := by decide +kernel
theorem kc_98_48 : xe_code 98 48 = some (.arraylength, []) := by decide +kernel
theorem kc_98_49 : xe_code 98 49 = some (.if_icmp .ge 39, [88]) := by decide +kernel
theorem kc_98_52 : xe_code 98 52 = some (.aload_n 0, []) := by decide +kernel
theorem kc_98_53 : xe_code 98 53 = some (.getfield 9, [8, 1, 100]) := by decide +kernel
theorem kc_98_56 : xe_code 98 56 = some (.iload 5, []) := by decide +kernel
theorem kc_98_58 : xe_code 98 58 = some (.iaload, []) := by decide +kernel
theorem kc_98_59 : xe_code 98 59 = some (.bipush 99, []) := by decide +kernel
theorem kc_98_61 : xe_code 98 61 = some (.if_icmp .eq 12, [73]) := by decide +kernel
theorem kc_98_64 : xe_code 98 64 = some (.aload_n 0, []) := by decide +kernel
theorem kc_98_65 : xe_code 98 65 = some (.getfield 9, [8, 1, 100]) := by decide +kernel
theorem kc_98_68 : xe_code 98 68 = some (.iload 5, []) := by decide +kernel
theorem kc_98_70 : xe_code 98 70 = some (.iaload, []) := by decide +kernel
theorem kc_98_71 : xe_code 98 71 = some (.istore 4, []) := by decide +kernel
theorem kc_98_73 : xe_code 98 73 = some (.aload_n 0, []) := by decide +kernel
theorem kc_98_74 : xe_code 98 74 = some (.getfield 15, [8, 2, 101]) := by decide +kernel
theorem kc_98_77 : xe_code 98 77 = some (.iload 5, []) := by decide +kernel
theorem kc_98_79 : xe_code 98 79 = some (.iload 4, []) := by decide +kernel
theorem kc_98_81 : xe_code 98 81 = some (.iastore, []) := by decide +kernel
theorem kc_98_82 : xe_code 98 82 = some (.iinc 5 1, []) := by decide +kernel
theorem kc_98_85 : xe_code 98 85 = some (.goto (-43), [42]) := by decide +kernel
theorem kc_98_88 : xe_code 98 88 = some (.iload_n 3, []) := by decide +kernel
theorem kc_98_89 : xe_code 98 89 = some (.ireturn, []) := by decide +kernel
theorem kc_99_0 : xe_code 99 0 = some (.iload_n 1, []) := by decide +kernel
theorem kc_99_1 : xe_code 99 1 = some (.ifCond .lt 12, [13]) := by decide +kernel
theorem kc_99_4 : xe_code 99 4 = some (.iload_n 1, []) := by decide +kernel
theorem kc_99_5 : xe_code 99 5 = some (.aload_n 0, []) := by decide +kernel
theorem kc_99_6 : xe_code 99 6 = some (.getfield 15, [8, 2, 101]) := by decide +kernel
theorem kc_99_9 : xe_code 99 9 = some (.arraylength, []) := by decide +kernel
theorem kc_99_10 : xe_code 99 10 = some (.if_icmp .lt 10, [20]) := by decide +kernel
theorem kc_99_13 : xe_code 99 13 = some (.aload_n 0, []) := by decide +kernel
theorem kc_99_14 : xe_code 99 14 = some (.getfield 18, [8, 0, 99]) := by decide +kernel
theorem kc_99_17 : xe_code 99 17 = some (.goto 9, [26]) := by decide +kernel
theorem kc_99_20 : xe_code 99 20 = some (.aload_n 0, []) := by decide +kernel
theorem kc_99_21 : xe_code 99 21 = some (.getfield 15, [8, 2, 101]) := by decide +kernel
theorem kc_99_24 : xe_code 99 24 = some (.iload_n 1, []) := by decide +kernel
theorem kc_99_25 : xe_code 99 25 = some (.iaload, []) := by decide +kernel
theorem kc_99_26 : xe_code 99 26 = some (.ireturn, []) := by decide +kernel
theorem kc_100_0 : xe_code 100 0 = some (.iload_n 2, []) := by decide +kernel
theorem kc_100_1 : xe_code 100 1 = some (.ifCond .eq 15, [16]) := by decide +kernel
theorem kc_100_4 : xe_code 100 4 = some (.iload_n 2, []) := by decide +kernel
theorem kc_100_5 : xe_code 100 5 = some (.iconst 1, []) := by decide +kernel
theorem kc_100_6 : xe_code 100 6 = some (.if_icmp .eq 10, [16]) := by decide +kernel
theorem kc_100_9 : xe_code 100 9 = some (.aload_n 0, []) := by decide +kernel
theorem kc_100_10 : xe_code 100 10 = some (.bipush (-2), []) := by decide +kernel
theorem kc_100_12 : xe_code 100 12 = some (.invokevirtual 100, [96, 1, 436, 0]) := by decide +kernel
theorem kc_100_15 : xe_code 100 15 = some (.ireturn, []) := by decide +kernel
theorem kc_100_16 : xe_code 100 16 = some (.iload_n 1, []) := by decide +kernel
theorem kc_100_17 : xe_code 100 17 = some (.ifCond .ge 10, [27]) := by decide +kernel
theorem kc_100_20 : xe_code 100 20 = some (.aload_n 0, []) := by decide +kernel
theorem kc_100_21 : xe_code 100 21 = some (.bipush (-4), []) := by decide +kernel
theorem kc_100_23 : xe_code 100 23 = some (.invokevirtual 100, [96, 1, 436, 0]) := by decide +kernel
theorem kc_100_26 : xe_code 100 26 = some (.ireturn, []) := by decide +kernel
theorem kc_100_27 : xe_code 100 27 = some (.iload_n 1, []) := by decide +kernel
theorem kc_100_28 : xe_code 100 28 = some (.sipush 600, []) := by decide +kernel
theorem kc_100_31 : xe_code 100 31 = some (.if_icmp .lt 10, [41]) := by decide +kernel
theorem kc_100_34 : xe_code 100 34 = some (.aload_n 0, []) := by decide +kernel
theorem kc_100_35 : xe_code 100 35 = some (.bipush (-6), []) := by decide +kernel
theorem kc_100_37 : xe_code 100 37 = some (.invokevirtual 100, [96, 1, 436, 0]) := by decide +kernel
theorem kc_100_40 : xe_code 100 40 = some (.ireturn, []) := by decide +kernel
theorem kc_100_41 : xe_code 100 41 = some (.aload_n 0, []) := by decide +kernel
theorem kc_100_42 : xe_code 100 42 = some (.getfield 10, [0, 0, 369]) := by decide +kernel
theorem kc_100_45 : xe_code 100 45 = some (.iload_n 2, []) := by decide +kernel
theorem kc_100_46 : xe_code 100 46 = some (.invokevirtual 103, [97, 1, 441, 4]) := by decide +kernel
theorem kc_100_49 : xe_code 100 49 = some (.iload_n 1, []) := by decide +kernel
theorem kc_100_50 : xe_code 100 50 = some (.invokevirtual 113, [99, 1, 457, 8]) := by decide +kernel
theorem kc_100_53 : xe_code 100 53 = some (.ireturn, []) := by decide +kernel
theorem kc_101_0 : xe_code 101 0 = some (.iload_n 1, []) := by decide +kernel
theorem kc_101_1 : xe_code 101 1 = some (.bipush (-20), []) := by decide +kernel
theorem kc_101_3 : xe_code 101 3 = some (.if_icmp .ge 10, [13]) := by decide +kernel
theorem kc_101_6 : xe_code 101 6 = some (.aload_n 0, []) := by decide +kernel
theorem kc_101_7 : xe_code 101 7 = some (.bipush (-4), []) := by decide +kernel
theorem kc_101_9 : xe_code 101 9 = some (.invokevirtual 72, [90, 1, 407, 0]) := by decide +kernel
theorem kc_101_12 : xe_code 101 12 = some (.ireturn, []) := by decide +kernel
theorem kc_101_13 : xe_code 101 13 = some (.iload_n 1, []) := by decide +kernel
theorem kc_101_14 : xe_code 101 14 = some (.bipush 30, []) := by decide +kernel
theorem kc_101_16 : xe_code 101 16 = some (.if_icmp .le 10, [26]) := by decide +kernel
theorem kc_101_19 : xe_code 101 19 = some (.aload_n 0, []) := by decide +kernel
theorem kc_101_20 : xe_code 101 20 = some (.bipush (-6), []) := by decide +kernel
theorem kc_101_22 : xe_code 101 22 = some (.invokevirtual 72, [90, 1, 407, 0]) := by decide +kernel
theorem kc_101_25 : xe_code 101 25 = some (.ireturn, []) := by decide +kernel
theorem kc_101_26 : xe_code 101 26 = some (.iload_n 1, []) := by decide +kernel
theorem kc_101_27 : xe_code 101 27 = some (.invokestatic 116, [102, 1, 462, 4]) := by decide +kernel
theorem kc_101_30 : xe_code 101 30 = some (.ireturn, []) := by decide +kernel
theorem kc_102_0 : xe_code 102 0 = some (.iload_n 0, []) := by decide +kernel
theorem kc_102_1 : xe_code 102 1 = some (.ifCond .lt 16, [17]) := by decide +kernel
theorem kc_102_4 : xe_code 102 4 = some (.iconst 5, []) := by decide +kernel
theorem kc_102_5 : xe_code 102 5 = some (.iload_n 0, []) := by decide +kernel
theorem kc_102_6 : xe_code 102 6 = some (.iconst 2, []) := by decide +kernel
theorem kc_102_7 : xe_code 102 7 = some (.idiv, []) := by decide +kernel
theorem kc_102_8 : xe_code 102 8 = some (.iadd, []) := by decide +kernel
theorem kc_102_9 : xe_code 102 9 = some (.iload_n 0, []) := by decide +kernel
theorem kc_102_10 : xe_code 102 10 = some (.iload_n 0, []) := by decide +kernel
theorem kc_102_11 : xe_code 102 11 = some (.imul, []) := by decide +kernel
theorem kc_102_12 : xe_code 102 12 = some (.bipush 40, []) := by decide +kernel
theorem kc_102_14 : xe_code 102 14 = some (.idiv, []) := by decide +kernel
theorem kc_102_15 : xe_code 102 15 = some (.iadd, []) := by decide +kernel
theorem kc_102_16 : xe_code 102 16 = some (.ireturn, []) := by decide +kernel
theorem kc_102_17 : xe_code 102 17 = some (.iconst 5, []) := by decide +kernel
theorem kc_102_18 : xe_code 102 18 = some (.iload_n 0, []) := by decide +kernel
theorem kc_102_19 : xe_code 102 19 = some (.invokestatic 56, [2, 1, 465, 0]) := by decide +kernel
theorem kc_102_22 : xe_code 102 22 = some (.iconst 5, []) := by decide +kernel
theorem kc_102_23 : xe_code 102 23 = some (.idiv, []) := by decide +kernel
theorem kc_102_24 : xe_code 102 24 = some (.isub, []) := by decide +kernel
theorem kc_102_25 : xe_code 102 25 = some (.istore_n 1, []) := by decide +kernel
theorem kc_102_26 : xe_code 102 26 = some (.iload_n 1, []) := by decide +kernel
theorem kc_102_27 : xe_code 102 27 = some (.iconst 1, []) := by decide +kernel
theorem kc_102_28 : xe_code 102 28 = some (.if_icmp .ge 7, [35]) := by decide +kernel
theorem kc_102_31 : xe_code 102 31 = some (.iconst 1, []) := by decide +kernel
theorem kc_102_32 : xe_code 102 32 = some (.goto 4, [36]) := by decide +kernel
theorem kc_102_35 : xe_code 102 35 = some (.iload_n 1, []) := by decide +kernel
theorem kc_102_36 : xe_code 102 36 = some (.ireturn, []) := by decide +kernel
theorem kc_103_0 : xe_code 103 0 = some (.iload_n 1, []) := by decide +kernel
theorem kc_103_1 : xe_code 103 1 = some (.invokestatic 119, [104, 1, 472, 0]) := by decide +kernel
theorem kc_103_4 : xe_code 103 4 = some (.ifCond .eq 10, [14]) := by decide +kernel
theorem kc_103_7 : xe_code 103 7 = some (.iload_n 2, []) := by decide +kernel
theorem kc_103_8 : xe_code 103 8 = some (.invokestatic 68, [89, 1, 404, 0]) := by decide +kernel
theorem kc_103_11 : xe_code 103 11 = some (.ifCond .ne 9, [20]) := by decide +kernel
theorem kc_103_14 : xe_code 103 14 = some (.aload_n 0, []) := by decide +kernel
theorem kc_103_15 : xe_code 103 15 = some (.iconst (-1), []) := by decide +kernel
theorem kc_103_16 : xe_code 103 16 = some (.invokevirtual 72, [90, 1, 407, 0]) := by decide +kernel
theorem kc_103_19 : xe_code 103 19 = some (.ireturn, []) := by decide +kernel
theorem kc_103_20 : xe_code 103 20 = some (.iload_n 3, []) := by decide +kernel
theorem kc_103_21 : xe_code 103 21 = some (.ifCond .ge 10, [31]) := by decide +kernel
theorem kc_103_24 : xe_code 103 24 = some (.aload_n 0, []) := by decide +kernel
theorem kc_103_25 : xe_code 103 25 = some (.bipush (-4), []) := by decide +kernel
theorem kc_103_27 : xe_code 103 27 = some (.invokevirtual 72, [90, 1, 407, 0]) := by decide +kernel
theorem kc_103_30 : xe_code 103 30 = some (.ireturn, []) := by decide +kernel
theorem kc_103_31 : xe_code 103 31 = some (.iload_n 3, []) := by decide +kernel
theorem kc_103_32 : xe_code 103 32 = some (.bipush 100, []) := by decide +kernel
theorem kc_103_34 : xe_code 103 34 = some (.if_icmp .le 10, [44]) := by decide +kernel
theorem kc_103_37 : xe_code 103 37 = some (.aload_n 0, []) := by decide +kernel
theorem kc_103_38 : xe_code 103 38 = some (.bipush (-6), []) := by decide +kernel
theorem kc_103_40 : xe_code 103 40 = some (.invokevirtual 72, [90, 1, 407, 0]) := by decide +kernel
theorem kc_103_43 : xe_code 103 43 = some (.ireturn, []) := by decide +kernel
theorem kc_103_44 : xe_code 103 44 = some (.aload_n 0, []) := by decide +kernel
theorem kc_103_45 : xe_code 103 45 = some (.getfield 28, [0, 2, 371]) := by decide +kernel
theorem kc_103_48 : xe_code 103 48 = some (.invokevirtual 85, [91, 0, 415, 3]) := by decide +kernel
theorem kc_103_51 : xe_code 103 51 = some (.aload_n 0, []) := by decide +kernel
theorem kc_103_52 : xe_code 103 52 = some (.getfield 10, [0, 0, 369]) := by decide +kernel
theorem kc_103_55 : xe_code 103 55 = some (.getfield 122, [4, 1, 173]) := by decide +kernel
theorem kc_103_58 : xe_code 103 58 = some (.iload_n 1, []) := by decide +kernel
theorem kc_103_59 : xe_code 103 59 = some (.aaload, []) := by decide +kernel
theorem kc_103_60 : xe_code 103 60 = some (.astore 5, []) := by decide +kernel
theorem kc_103_62 : xe_code 103 62 = some (.aload 5, []) := by decide +kernel
theorem kc_103_64 : xe_code 103 64 = some (.invokevirtual 126, [105, 0, 475, 11]) := by decide +kernel
theorem kc_103_67 : xe_code 103 67 = some (.ifCond .eq 7, [74]) := by decide +kernel
theorem kc_103_70 : xe_code 103 70 = some (.iconst 0, []) := by decide +kernel
theorem kc_103_71 : xe_code 103 71 = some (.goto 4, [75]) := by decide +kernel
theorem kc_103_74 : xe_code 103 74 = some (.iconst 1, []) := by decide +kernel
theorem kc_103_75 : xe_code 103 75 = some (.istore 6, []) := by decide +kernel
theorem kc_103_77 : xe_code 103 77 = some (.aload 5, []) := by decide +kernel
theorem kc_103_79 : xe_code 103 79 = some (.iload_n 2, []) := by decide +kernel
theorem kc_103_80 : xe_code 103 80 = some (.putfield 132, [11, 0, 132]) := by decide +kernel
theorem kc_103_83 : xe_code 103 83 = some (.aload 5, []) := by decide +kernel
theorem kc_103_85 : xe_code 103 85 = some (.iload_n 3, []) := by decide +kernel
theorem kc_103_86 : xe_code 103 86 = some (.putfield 135, [11, 1, 134]) := by decide +kernel
theorem kc_103_89 : xe_code 103 89 = some (.aload 5, []) := by decide +kernel
theorem kc_103_91 : xe_code 103 91 = some (.iload 4, []) := by decide +kernel
theorem kc_103_93 : xe_code 103 93 = some (.putfield 138, [11, 2, 135]) := by decide +kernel
theorem kc_103_96 : xe_code 103 96 = some (.iload 6, []) := by decide +kernel
theorem kc_103_98 : xe_code 103 98 = some (.ireturn, []) := by decide +kernel
theorem kc_104_0 : xe_code 104 0 = some (.iload_n 0, []) := by decide +kernel
theorem kc_104_1 : xe_code 104 1 = some (.ifCond .lt 13, [14]) := by decide +kernel
theorem kc_104_4 : xe_code 104 4 = some (.iload_n 0, []) := by decide +kernel
theorem kc_104_5 : xe_code 104 5 = some (.bipush 12, []) := by decide +kernel
theorem kc_104_7 : xe_code 104 7 = some (.if_icmp .ge 7, [14]) := by decide +kernel
theorem kc_104_10 : xe_code 104 10 = some (.iconst 1, []) := by decide +kernel
theorem kc_104_11 : xe_code 104 11 = some (.goto 4, [15]) := by decide +kernel
theorem kc_104_14 : xe_code 104 14 = some (.iconst 0, []) := by decide +kernel
theorem kc_104_15 : xe_code 104 15 = some (.ireturn, []) := by decide +kernel
theorem kc_105_0 : xe_code 105 0 = some (.aload_n 0, []) := by decide +kernel
theorem kc_105_1 : xe_code 105 1 = some (.getfield 9, [11, 0, 130]) := by decide +kernel
theorem kc_105_4 : xe_code 105 4 = some (.invokestatic 19, [89, 1, 479, 0]) := by decide +kernel
theorem kc_105_7 : xe_code 105 7 = some (.ireturn, []) := by decide +kernel
theorem kc_106_0 : xe_code 106 0 = some (.iload_n 1, []) := by decide +kernel
theorem kc_106_1 : xe_code 106 1 = some (.invokestatic 119, [104, 1, 472, 0]) := by decide +kernel
theorem kc_106_4 : xe_code 106 4 = some (.ifCond .ne 9, [13]) := by decide +kernel
theorem kc_106_7 : xe_code 106 7 = some (.aload_n 0, []) := by decide +kernel
theorem kc_106_8 : xe_code 106 8 = some (.iconst (-1), []) := by decide +kernel
theorem kc_106_9 : xe_code 106 9 = some (.invokevirtual 72, [90, 1, 407, 0]) := by decide +kernel
theorem kc_106_12 : xe_code 106 12 = some (.ireturn, []) := by decide +kernel
theorem kc_106_13 : xe_code 106 13 = some (.aload_n 0, []) := by decide +kernel
theorem kc_106_14 : xe_code 106 14 = some (.getfield 10, [0, 0, 369]) := by decide +kernel
theorem kc_106_17 : xe_code 106 17 = some (.getfield 122, [4, 1, 173]) := by decide +kernel
theorem kc_106_20 : xe_code 106 20 = some (.iload_n 1, []) := by decide +kernel
theorem kc_106_21 : xe_code 106 21 = some (.aaload, []) := by decide +kernel
theorem kc_106_22 : xe_code 106 22 = some (.astore_n 3, []) := by decide +kernel
theorem kc_106_23 : xe_code 106 23 = some (.iload_n 2, []) := by decide +kernel
theorem kc_106_24 : xe_code 106 24 = some (.tableswitch 91 0 5 #[40, 45, 50, 63, 73, 78], [115, 64, 69, 74, 87, 97, 102]) := by decide +kernel
theorem kc_106_64 : xe_code 106 64 = some (.aload_n 3, []) := by decide +kernel
theorem kc_106_65 : xe_code 106 65 = some (.getfield 132, [11, 0, 132]) := by decide +kernel
theorem kc_106_68 : xe_code 106 68 = some (.ireturn, []) := by decide +kernel
theorem kc_106_69 : xe_code 106 69 = some (.aload_n 3, []) := by decide +kernel
theorem kc_106_70 : xe_code 106 70 = some (.getfield 135, [11, 1, 134]) := by decide +kernel
theorem kc_106_73 : xe_code 106 73 = some (.ireturn, []) := by decide +kernel
theorem kc_106_74 : xe_code 106 74 = some (.aload_n 3, []) := by decide +kernel
theorem kc_106_75 : xe_code 106 75 = some (.getfield 138, [11, 2, 135]) := by decide +kernel
theorem kc_106_78 : xe_code 106 78 = some (.ifCond .eq 7, [85]) := by decide +kernel
theorem kc_106_81 : xe_code 106 81 = some (.iconst 1, []) := by decide +kernel
theorem kc_106_82 : xe_code 106 82 = some (.goto 4, [86]) := by decide +kernel
theorem kc_106_85 : xe_code 106 85 = some (.iconst 0, []) := by decide +kernel
theorem kc_106_86 : xe_code 106 86 = some (.ireturn, []) := by decide +kernel
theorem kc_106_87 : xe_code 106 87 = some (.aload_n 0, []) := by decide +kernel
theorem kc_106_88 : xe_code 106 88 = some (.getfield 19, [0, 1, 370]) := by decide +kernel
theorem kc_106_91 : xe_code 106 91 = some (.getfield 142, [9, 1, 207]) := by decide +kernel
theorem kc_106_94 : xe_code 106 94 = some (.iload_n 1, []) := by decide +kernel
theorem kc_106_95 : xe_code 106 95 = some (.iaload, []) := by decide +kernel
theorem kc_106_96 : xe_code 106 96 = some (.ireturn, []) := by decide +kernel
theorem kc_106_97 : xe_code 106 97 = some (.aload_n 3, []) := by decide +kernel
theorem kc_106_98 : xe_code 106 98 = some (.getfield 145, [11, 3, 137]) := by decide +kernel
theorem kc_106_101 : xe_code 106 101 = some (.ireturn, []) := by decide +kernel
theorem kc_106_102 : xe_code 106 102 = some (.aload_n 0, []) := by decide +kernel
theorem kc_106_103 : xe_code 106 103 = some (.getfield 10, [0, 0, 369]) := by decide +kernel
theorem kc_106_106 : xe_code 106 106 = some (.iload_n 1, []) := by decide +kernel
theorem kc_106_107 : xe_code 106 107 = some (.aload_n 0, []) := by decide +kernel
theorem kc_106_108 : xe_code 106 108 = some (.getfield 148, [0, 9, 378]) := by decide +kernel
theorem kc_106_111 : xe_code 106 111 = some (.invokevirtual 151, [107, 2, 484, 4]) := by decide +kernel
theorem kc_106_114 : xe_code 106 114 = some (.ireturn, []) := by decide +kernel
theorem kc_106_115 : xe_code 106 115 = some (.aload_n 0, []) := by decide +kernel
theorem kc_106_116 : xe_code 106 116 = some (.bipush (-2), []) := by decide +kernel
theorem kc_106_118 : xe_code 106 118 = some (.invokevirtual 72, [90, 1, 407, 0]) := by decide +kernel
theorem kc_106_121 : xe_code 106 121 = some (.ireturn, []) := by decide +kernel
theorem kc_107_0 : xe_code 107 0 = some (.aload_n 0, []) := by decide +kernel
theorem kc_107_1 : xe_code 107 1 = some (.iload_n 1, []) := by decide +kernel
theorem kc_107_2 : xe_code 107 2 = some (.invokevirtual 72, [108, 1, 488, 4]) := by decide +kernel
theorem kc_107_5 : xe_code 107 5 = some (.ifCond .ne 5, [10]) := by decide +kernel
theorem kc_107_8 : xe_code 107 8 = some (.iconst 0, []) := by decide +kernel
theorem kc_107_9 : xe_code 107 9 = some (.ireturn, []) := by decide +kernel
theorem kc_107_10 : xe_code 107 10 = some (.aload_n 0, []) := by decide +kernel
theorem kc_107_11 : xe_code 107 11 = some (.getfield 11, [4, 0, 170]) := by decide +kernel
theorem kc_107_14 : xe_code 107 14 = some (.aload_n 0, []) := by decide +kernel
theorem kc_107_15 : xe_code 107 15 = some (.getfield 19, [4, 1, 172]) := by decide +kernel
theorem kc_107_18 : xe_code 107 18 = some (.iload_n 1, []) := by decide +kernel
theorem kc_107_19 : xe_code 107 19 = some (.aaload, []) := by decide +kernel
theorem kc_107_20 : xe_code 107 20 = some (.getfield 69, [11, 0, 131]) := by decide +kernel
theorem kc_107_23 : xe_code 107 23 = some (.aaload, []) := by decide +kernel
theorem kc_107_24 : xe_code 107 24 = some (.getfield 94, [7, 0, 116]) := by decide +kernel
theorem kc_107_27 : xe_code 107 27 = some (.iconst 1, []) := by decide +kernel
theorem kc_107_28 : xe_code 107 28 = some (.iaload, []) := by decide +kernel
theorem kc_107_29 : xe_code 107 29 = some (.istore_n 3, []) := by decide +kernel
theorem kc_107_30 : xe_code 107 30 = some (.aload_n 0, []) := by decide +kernel
theorem kc_107_31 : xe_code 107 31 = some (.getfield 19, [4, 1, 172]) := by decide +kernel
theorem kc_107_34 : xe_code 107 34 = some (.iload_n 1, []) := by decide +kernel
theorem kc_107_35 : xe_code 107 35 = some (.aaload, []) := by decide +kernel
theorem kc_107_36 : xe_code 107 36 = some (.iload_n 3, []) := by decide +kernel
theorem kc_107_37 : xe_code 107 37 = some (.aload_n 0, []) := by decide +kernel
theorem kc_107_38 : xe_code 107 38 = some (.getfield 34, [4, 3, 175]) := by decide +kernel
theorem kc_107_41 : xe_code 107 41 = some (.iload_n 2, []) := by decide +kernel
theorem kc_107_42 : xe_code 107 42 = some (.invokevirtual 98, [99, 1, 494, 8]) := by decide +kernel
theorem kc_107_45 : xe_code 107 45 = some (.isub, []) := by decide +kernel
theorem kc_107_46 : xe_code 107 46 = some (.invokevirtual 100, [109, 1, 495, 11]) := by decide +kernel
theorem kc_107_49 : xe_code 107 49 = some (.ireturn, []) := by decide +kernel
theorem kc_108_0 : xe_code 108 0 = some (.iload_n 1, []) := by decide +kernel
theorem kc_108_1 : xe_code 108 1 = some (.invokestatic 62, [104, 1, 492, 0]) := by decide +kernel
theorem kc_108_4 : xe_code 108 4 = some (.ifCond .eq 19, [23]) := by decide +kernel
theorem kc_108_7 : xe_code 108 7 = some (.aload_n 0, []) := by decide +kernel
theorem kc_108_8 : xe_code 108 8 = some (.getfield 19, [4, 1, 172]) := by decide +kernel
theorem kc_108_11 : xe_code 108 11 = some (.iload_n 1, []) := by decide +kernel
theorem kc_108_12 : xe_code 108 12 = some (.aaload, []) := by decide +kernel
theorem kc_108_13 : xe_code 108 13 = some (.invokevirtual 65, [105, 0, 493, 11]) := by decide +kernel
theorem kc_108_16 : xe_code 108 16 = some (.ifCond .eq 7, [23]) := by decide +kernel
theorem kc_108_19 : xe_code 108 19 = some (.iconst 1, []) := by decide +kernel
theorem kc_108_20 : xe_code 108 20 = some (.goto 4, [24]) := by decide +kernel
theorem kc_108_23 : xe_code 108 23 = some (.iconst 0, []) := by decide +kernel
theorem kc_108_24 : xe_code 108 24 = some (.ireturn, []) := by decide +kernel
theorem kc_109_0 : xe_code 109 0 = some (.iload_n 1, []) := by decide +kernel
theorem kc_109_1 : xe_code 109 1 = some (.aload_n 0, []) := by decide +kernel
theorem kc_109_2 : xe_code 109 2 = some (.getfield 23, [11, 1, 133]) := by decide +kernel
theorem kc_109_5 : xe_code 109 5 = some (.imul, []) := by decide +kernel
theorem kc_109_6 : xe_code 109 6 = some (.bipush 100, []) := by decide +kernel
theorem kc_109_8 : xe_code 109 8 = some (.idiv, []) := by decide +kernel
theorem kc_109_9 : xe_code 109 9 = some (.istore_n 2, []) := by decide +kernel
theorem kc_109_10 : xe_code 109 10 = some (.iload_n 2, []) := by decide +kernel
theorem kc_109_11 : xe_code 109 11 = some (.ifCond .ge 7, [18]) := by decide +kernel
theorem kc_109_14 : xe_code 109 14 = some (.iconst 0, []) := by decide +kernel
theorem kc_109_15 : xe_code 109 15 = some (.goto 4, [19]) := by decide +kernel
theorem kc_109_18 : xe_code 109 18 = some (.iload_n 2, []) := by decide +kernel
theorem kc_109_19 : xe_code 109 19 = some (.ireturn, []) := by decide +kernel
theorem kc_110_0 : xe_code 110 0 = some (.iload_n 1, []) := by decide +kernel
theorem kc_110_1 : xe_code 110 1 = some (.iconst 1, []) := by decide +kernel
theorem kc_110_2 : xe_code 110 2 = some (.if_icmp .ge 10, [12]) := by decide +kernel
theorem kc_110_5 : xe_code 110 5 = some (.aload_n 0, []) := by decide +kernel
theorem kc_110_6 : xe_code 110 6 = some (.bipush (-4), []) := by decide +kernel
theorem kc_110_8 : xe_code 110 8 = some (.invokevirtual 72, [90, 1, 407, 0]) := by decide +kernel
theorem kc_110_11 : xe_code 110 11 = some (.ireturn, []) := by decide +kernel
theorem kc_110_12 : xe_code 110 12 = some (.iload_n 1, []) := by decide +kernel
theorem kc_110_13 : xe_code 110 13 = some (.bipush 50, []) := by decide +kernel
theorem kc_110_15 : xe_code 110 15 = some (.if_icmp .le 10, [25]) := by decide +kernel
theorem kc_110_18 : xe_code 110 18 = some (.aload_n 0, []) := by decide +kernel
theorem kc_110_19 : xe_code 110 19 = some (.bipush (-6), []) := by decide +kernel
theorem kc_110_21 : xe_code 110 21 = some (.invokevirtual 72, [90, 1, 407, 0]) := by decide +kernel
theorem kc_110_24 : xe_code 110 24 = some (.ireturn, []) := by decide +kernel
theorem kc_110_25 : xe_code 110 25 = some (.aload_n 0, []) := by decide +kernel
theorem kc_110_26 : xe_code 110 26 = some (.getfield 28, [0, 2, 371]) := by decide +kernel
theorem kc_110_29 : xe_code 110 29 = some (.invokevirtual 85, [91, 0, 415, 3]) := by decide +kernel
theorem kc_110_32 : xe_code 110 32 = some (.aload_n 0, []) := by decide +kernel
theorem kc_110_33 : xe_code 110 33 = some (.getfield 10, [0, 0, 369]) := by decide +kernel
theorem kc_110_36 : xe_code 110 36 = some (.getfield 154, [4, 6, 180]) := by decide +kernel
theorem kc_110_39 : xe_code 110 39 = some (.istore_n 2, []) := by decide +kernel
theorem kc_110_40 : xe_code 110 40 = some (.aload_n 0, []) := by decide +kernel
theorem kc_110_41 : xe_code 110 41 = some (.getfield 10, [0, 0, 369]) := by decide +kernel
theorem kc_110_44 : xe_code 110 44 = some (.iload_n 1, []) := by decide +kernel
theorem kc_110_45 : xe_code 110 45 = some (.putfield 154, [4, 6, 180]) := by decide +kernel
theorem kc_110_48 : xe_code 110 48 = some (.iload_n 2, []) := by decide +kernel
theorem kc_110_49 : xe_code 110 49 = some (.ireturn, []) := by decide +kernel
theorem kc_111_0 : xe_code 111 0 = some (.iload_n 1, []) := by decide +kernel
theorem kc_111_1 : xe_code 111 1 = some (.invokestatic 119, [104, 1, 472, 0]) := by decide +kernel
theorem kc_111_4 : xe_code 111 4 = some (.ifCond .ne 9, [13]) := by decide +kernel
theorem kc_111_7 : xe_code 111 7 = some (.aload_n 0, []) := by decide +kernel
theorem kc_111_8 : xe_code 111 8 = some (.iconst (-1), []) := by decide +kernel
theorem kc_111_9 : xe_code 111 9 = some (.invokevirtual 72, [90, 1, 407, 0]) := by decide +kernel
theorem kc_111_12 : xe_code 111 12 = some (.ireturn, []) := by decide +kernel
theorem kc_111_13 : xe_code 111 13 = some (.aload_n 0, []) := by decide +kernel
theorem kc_111_14 : xe_code 111 14 = some (.getfield 10, [0, 0, 369]) := by decide +kernel
theorem kc_111_17 : xe_code 111 17 = some (.getfield 122, [4, 1, 173]) := by decide +kernel
theorem kc_111_20 : xe_code 111 20 = some (.iload_n 1, []) := by decide +kernel
theorem kc_111_21 : xe_code 111 21 = some (.aaload, []) := by decide +kernel
theorem kc_111_22 : xe_code 111 22 = some (.getfield 145, [11, 3, 137]) := by decide +kernel
theorem kc_111_25 : xe_code 111 25 = some (.istore_n 2, []) := by decide +kernel
theorem kc_111_26 : xe_code 111 26 = some (.aload_n 0, []) := by decide +kernel
theorem kc_111_27 : xe_code 111 27 = some (.getfield 10, [0, 0, 369]) := by decide +kernel
theorem kc_111_30 : xe_code 111 30 = some (.getfield 122, [4, 1, 173]) := by decide +kernel
theorem kc_111_33 : xe_code 111 33 = some (.iload_n 1, []) := by decide +kernel
theorem kc_111_34 : xe_code 111 34 = some (.aaload, []) := by decide +kernel
theorem kc_111_35 : xe_code 111 35 = some (.iconst 0, []) := by decide +kernel
theorem kc_111_36 : xe_code 111 36 = some (.putfield 145, [11, 3, 137]) := by decide +kernel
theorem kc_111_39 : xe_code 111 39 = some (.iload_n 2, []) := by decide +kernel
theorem kc_111_40 : xe_code 111 40 = some (.ireturn, []) := by decide +kernel
theorem kc_112_0 : xe_code 112 0 = some (.iload_n 1, []) := by decide +kernel
theorem kc_112_1 : xe_code 112 1 = some (.invokestatic 68, [89, 1, 404, 0]) := by decide +kernel
theorem kc_112_4 : xe_code 112 4 = some (.ifCond .eq 15, [19]) := by decide +kernel
theorem kc_112_7 : xe_code 112 7 = some (.aload_n 0, []) := by decide +kernel
theorem kc_112_8 : xe_code 112 8 = some (.getfield 19, [0, 1, 370]) := by decide +kernel
theorem kc_112_11 : xe_code 112 11 = some (.getfield 82, [9, 0, 203]) := by decide +kernel
theorem kc_112_14 : xe_code 112 14 = some (.iload_n 1, []) := by decide +kernel
theorem kc_112_15 : xe_code 112 15 = some (.iaload, []) := by decide +kernel
theorem kc_112_16 : xe_code 112 16 = some (.goto 8, [24]) := by decide +kernel
theorem kc_112_19 : xe_code 112 19 = some (.aload_n 0, []) := by decide +kernel
theorem kc_112_20 : xe_code 112 20 = some (.iconst (-1), []) := by decide +kernel
theorem kc_112_21 : xe_code 112 21 = some (.invokevirtual 72, [90, 1, 407, 0]) := by decide +kernel
theorem kc_112_24 : xe_code 112 24 = some (.ireturn, []) := by decide +kernel
theorem kc_113_0 : xe_code 113 0 = some (.aload_n 0, []) := by decide +kernel
theorem kc_113_1 : xe_code 113 1 = some (.getfield 10, [0, 0, 369]) := by decide +kernel
theorem kc_113_4 : xe_code 113 4 = some (.iload_n 1, []) := by decide +kernel
theorem kc_113_5 : xe_code 113 5 = some (.invokevirtual 157, [108, 1, 515, 4]) := by decide +kernel
theorem kc_113_8 : xe_code 113 8 = some (.ifCond .ne 9, [17]) := by decide +kernel
theorem kc_113_11 : xe_code 113 11 = some (.aload_n 0, []) := by decide +kernel
theorem kc_113_12 : xe_code 113 12 = some (.iconst (-1), []) := by decide +kernel
theorem kc_113_13 : xe_code 113 13 = some (.invokevirtual 72, [90, 1, 407, 0]) := by decide +kernel
theorem kc_113_16 : xe_code 113 16 = some (.ireturn, []) := by decide +kernel
theorem kc_113_17 : xe_code 113 17 = some (.iload_n 2, []) := by decide +kernel
theorem kc_113_18 : xe_code 113 18 = some (.aload_n 0, []) := by decide +kernel
theorem kc_113_19 : xe_code 113 19 = some (.getfield 148, [0, 9, 378]) := by decide +kernel
theorem kc_113_22 : xe_code 113 22 = some (.if_icmp .gt 14, [36]) := by decide +kernel
theorem kc_113_25 : xe_code 113 25 = some (.aload_n 0, []) := by decide +kernel
theorem kc_113_26 : xe_code 113 26 = some (.getfield 28, [0, 2, 371]) := by decide +kernel
theorem kc_113_29 : xe_code 113 29 = some (.iload_n 2, []) := by decide +kernel
theorem kc_113_30 : xe_code 113 30 = some (.invokevirtual 160, [114, 1, 516, 3]) := by decide +kernel
theorem kc_113_33 : xe_code 113 33 = some (.ifCond .eq 10, [43]) := by decide +kernel
theorem kc_113_36 : xe_code 113 36 = some (.aload_n 0, []) := by decide +kernel
theorem kc_113_37 : xe_code 113 37 = some (.bipush (-3), []) := by decide +kernel
theorem kc_113_39 : xe_code 113 39 = some (.invokevirtual 72, [90, 1, 407, 0]) := by decide +kernel
theorem kc_113_42 : xe_code 113 42 = some (.ireturn, []) := by decide +kernel
theorem kc_113_43 : xe_code 113 43 = some (.iload_n 2, []) := by decide +kernel
theorem kc_113_44 : xe_code 113 44 = some (.ifCond .lt 12, [56]) := by decide +kernel
theorem kc_113_47 : xe_code 113 47 = some (.iload_n 3, []) := by decide +kernel
theorem kc_113_48 : xe_code 113 48 = some (.ifCond .lt 8, [56]) := by decide +kernel
theorem kc_113_51 : xe_code 113 51 = some (.iload 4, []) := by decide +kernel
theorem kc_113_53 : xe_code 113 53 = some (.ifCond .ge 10, [63]) := by decide +kernel
theorem kc_113_56 : xe_code 113 56 = some (.aload_n 0, []) := by decide +kernel
theorem kc_113_57 : xe_code 113 57 = some (.bipush (-4), []) := by decide +kernel
theorem kc_113_59 : xe_code 113 59 = some (.invokevirtual 72, [90, 1, 407, 0]) := by decide +kernel
theorem kc_113_62 : xe_code 113 62 = some (.ireturn, []) := by decide +kernel
theorem kc_113_63 : xe_code 113 63 = some (.iload_n 3, []) := by decide +kernel
theorem kc_113_64 : xe_code 113 64 = some (.ldc 163, [99999, 520]) := by decide +kernel
theorem kc_113_66 : xe_code 113 66 = some (.if_icmp .gt 23, [89]) := by decide +kernel
theorem kc_113_69 : xe_code 113 69 = some (.iload 4, []) := by decide +kernel
theorem kc_113_71 : xe_code 113 71 = some (.sipush 999, []) := by decide +kernel
theorem kc_113_74 : xe_code 113 74 = some (.if_icmp .gt 15, [89]) := by decide +kernel
theorem kc_113_77 : xe_code 113 77 = some (.aload_n 0, []) := by decide +kernel
theorem kc_113_78 : xe_code 113 78 = some (.getfield 28, [0, 2, 371]) := by decide +kernel
theorem kc_113_81 : xe_code 113 81 = some (.getfield 164, [3, 8, 241]) := by decide +kernel
theorem kc_113_84 : xe_code 113 84 = some (.bipush 60, []) := by decide +kernel
theorem kc_113_86 : xe_code 113 86 = some (.if_icmp .lt 10, [96]) := by decide +kernel
theorem kc_113_89 : xe_code 113 89 = some (.aload_n 0, []) := by decide +kernel
theorem kc_113_90 : xe_code 113 90 = some (.bipush (-6), []) := by decide +kernel
theorem kc_113_92 : xe_code 113 92 = some (.invokevirtual 72, [90, 1, 407, 0]) := by decide +kernel
theorem kc_113_95 : xe_code 113 95 = some (.ireturn, []) := by decide +kernel
theorem kc_113_96 : xe_code 113 96 = some (.aload_n 0, []) := by decide +kernel
theorem kc_113_97 : xe_code 113 97 = some (.getfield 28, [0, 2, 371]) := by decide +kernel
theorem kc_113_100 : xe_code 113 100 = some (.invokevirtual 85, [91, 0, 415, 3]) := by decide +kernel
theorem kc_113_103 : xe_code 113 103 = some (.aload_n 0, []) := by decide +kernel
theorem kc_113_104 : xe_code 113 104 = some (.getfield 28, [0, 2, 371]) := by decide +kernel
theorem kc_113_107 : xe_code 113 107 = some (.iload_n 1, []) := by decide +kernel
theorem kc_113_108 : xe_code 113 108 = some (.iload_n 2, []) := by decide +kernel
theorem kc_113_109 : xe_code 113 109 = some (.iload_n 3, []) := by decide +kernel
theorem kc_113_110 : xe_code 113 110 = some (.iload 4, []) := by decide +kernel
theorem kc_113_112 : xe_code 113 112 = some (.isub, []) := by decide +kernel
theorem kc_113_113 : xe_code 113 113 = some (.iload_n 3, []) := by decide +kernel
theorem kc_113_114 : xe_code 113 114 = some (.iload 4, []) := by decide +kernel
theorem kc_113_116 : xe_code 113 116 = some (.iadd, []) := by decide +kernel
theorem kc_113_117 : xe_code 113 117 = some (.invokevirtual 167, [115, 4, 521, 3]) := by decide +kernel
theorem kc_113_120 : xe_code 113 120 = some (.ireturn, []) := by decide +kernel
theorem kc_114_0 : xe_code 114 0 = some (.aload_n 0, []) := by decide +kernel
theorem kc_114_1 : xe_code 114 1 = some (.getfield 43, [3, 8, 240]) := by decide +kernel
theorem kc_114_4 : xe_code 114 4 = some (.ifCond .le 31, [35]) := by decide +kernel
theorem kc_114_7 : xe_code 114 7 = some (.aload_n 0, []) := by decide +kernel
theorem kc_114_8 : xe_code 114 8 = some (.getfield 43, [3, 8, 240]) := by decide +kernel
theorem kc_114_11 : xe_code 114 11 = some (.bipush 60, []) := by decide +kernel
theorem kc_114_13 : xe_code 114 13 = some (.if_icmp .gt 22, [35]) := by decide +kernel
theorem kc_114_16 : xe_code 114 16 = some (.iload_n 1, []) := by decide +kernel
theorem kc_114_17 : xe_code 114 17 = some (.aload_n 0, []) := by decide +kernel
theorem kc_114_18 : xe_code 114 18 = some (.getfield 22, [3, 3, 235]) := by decide +kernel
theorem kc_114_21 : xe_code 114 21 = some (.aload_n 0, []) := by decide +kernel
theorem kc_114_22 : xe_code 114 22 = some (.getfield 43, [3, 8, 240]) := by decide +kernel
theorem kc_114_25 : xe_code 114 25 = some (.iconst 1, []) := by decide +kernel
theorem kc_114_26 : xe_code 114 26 = some (.isub, []) := by decide +kernel
theorem kc_114_27 : xe_code 114 27 = some (.iaload, []) := by decide +kernel
theorem kc_114_28 : xe_code 114 28 = some (.if_icmp .ge 7, [35]) := by decide +kernel
theorem kc_114_31 : xe_code 114 31 = some (.iconst 1, []) := by decide +kernel
theorem kc_114_32 : xe_code 114 32 = some (.goto 4, [36]) := by decide +kernel
theorem kc_114_35 : xe_code 114 35 = some (.iconst 0, []) := by decide +kernel
theorem kc_114_36 : xe_code 114 36 = some (.ireturn, []) := by decide +kernel
theorem kc_115_0 : xe_code 115 0 = some (.aload_n 0, []) := by decide +kernel
theorem kc_115_1 : xe_code 115 1 = some (.getfield 43, [3, 8, 240]) := by decide +kernel
theorem kc_115_4 : xe_code 115 4 = some (.bipush 60, []) := by decide +kernel
theorem kc_115_6 : xe_code 115 6 = some (.if_icmp .lt 6, [12]) := by decide +kernel
theorem kc_115_9 : xe_code 115 9 = some (.bipush (-9), []) := by decide +kernel
theorem kc_115_11 : xe_code 115 11 = some (.ireturn, []) := by decide +kernel
theorem kc_115_12 : xe_code 115 12 = some (.aload_n 0, []) := by decide +kernel
theorem kc_115_13 : xe_code 115 13 = some (.getfield 18, [3, 2, 234]) := by decide +kernel
theorem kc_115_16 : xe_code 115 16 = some (.aload_n 0, []) := by decide +kernel
theorem kc_115_17 : xe_code 115 17 = some (.getfield 43, [3, 8, 240]) := by decide +kernel
theorem kc_115_20 : xe_code 115 20 = some (.iload_n 1, []) := by decide +kernel
theorem kc_115_21 : xe_code 115 21 = some (.iastore, []) := by decide +kernel
theorem kc_115_22 : xe_code 115 22 = some (.aload_n 0, []) := by decide +kernel
theorem kc_115_23 : xe_code 115 23 = some (.getfield 22, [3, 3, 235]) := by decide +kernel
theorem kc_115_26 : xe_code 115 26 = some (.aload_n 0, []) := by decide +kernel
theorem kc_115_27 : xe_code 115 27 = some (.getfield 43, [3, 8, 240]) := by decide +kernel
theorem kc_115_30 : xe_code 115 30 = some (.iload_n 2, []) := by decide +kernel
theorem kc_115_31 : xe_code 115 31 = some (.iastore, []) := by decide +kernel
theorem kc_115_32 : xe_code 115 32 = some (.aload_n 0, []) := by decide +kernel
theorem kc_115_33 : xe_code 115 33 = some (.getfield 25, [3, 4, 236]) := by decide +kernel
theorem kc_115_36 : xe_code 115 36 = some (.aload_n 0, []) := by decide +kernel
theorem kc_115_37 : xe_code 115 37 = some (.getfield 43, [3, 8, 240]) := by decide +kernel
theorem kc_115_40 : xe_code 115 40 = some (.iload_n 3, []) := by decide +kernel
theorem kc_115_41 : xe_code 115 41 = some (.iastore, []) := by decide +kernel
theorem kc_115_42 : xe_code 115 42 = some (.aload_n 0, []) := by decide +kernel
theorem kc_115_43 : xe_code 115 43 = some (.getfield 28, [3, 5, 237]) := by decide +kernel
theorem kc_115_46 : xe_code 115 46 = some (.aload_n 0, []) := by decide +kernel
theorem kc_115_47 : xe_code 115 47 = some (.getfield 43, [3, 8, 240]) := by decide +kernel
theorem kc_115_50 : xe_code 115 50 = some (.iload 4, []) := by decide +kernel
theorem kc_115_52 : xe_code 115 52 = some (.iastore, []) := by decide +kernel
theorem kc_115_53 : xe_code 115 53 = some (.aload_n 0, []) := by decide +kernel
theorem kc_115_54 : xe_code 115 54 = some (.dup, []) := by decide +kernel
theorem kc_115_55 : xe_code 115 55 = some (.getfield 43, [3, 8, 240]) := by decide +kernel
theorem kc_115_58 : xe_code 115 58 = some (.iconst 1, []) := by decide +kernel
theorem kc_115_59 : xe_code 115 59 = some (.iadd, []) := by decide +kernel
theorem kc_115_60 : xe_code 115 60 = some (.putfield 43, [3, 8, 240]) := by decide +kernel
theorem kc_115_63 : xe_code 115 63 = some (.aload_n 0, []) := by decide +kernel
theorem kc_115_64 : xe_code 115 64 = some (.getfield 43, [3, 8, 240]) := by decide +kernel
theorem kc_115_67 : xe_code 115 67 = some (.iconst 1, []) := by decide +kernel
theorem kc_115_68 : xe_code 115 68 = some (.isub, []) := by decide +kernel
theorem kc_115_69 : xe_code 115 69 = some (.ireturn, []) := by decide +kernel
theorem kc_116_0 : xe_code 116 0 = some (.iload_n 1, []) := by decide +kernel
theorem kc_116_1 : xe_code 116 1 = some (.invokestatic 171, [117, 1, 529, 0]) := by decide +kernel
theorem kc_116_4 : xe_code 116 4 = some (.ifCond .ne 10, [14]) := by decide +kernel
theorem kc_116_7 : xe_code 116 7 = some (.aload_n 0, []) := by decide +kernel
theorem kc_116_8 : xe_code 116 8 = some (.bipush (-2), []) := by decide +kernel
theorem kc_116_10 : xe_code 116 10 = some (.invokevirtual 72, [90, 1, 407, 0]) := by decide +kernel
theorem kc_116_13 : xe_code 116 13 = some (.ireturn, []) := by decide +kernel
theorem kc_116_14 : xe_code 116 14 = some (.aload_n 0, []) := by decide +kernel
theorem kc_116_15 : xe_code 116 15 = some (.getfield 10, [0, 0, 369]) := by decide +kernel
theorem kc_116_18 : xe_code 116 18 = some (.iload_n 1, []) := by decide +kernel
theorem kc_116_19 : xe_code 116 19 = some (.iload_n 2, []) := by decide +kernel
theorem kc_116_20 : xe_code 116 20 = some (.invokevirtual 174, [118, 2, 532, 4]) := by decide +kernel
theorem kc_116_23 : xe_code 116 23 = some (.ifCond .ne 9, [32]) := by decide +kernel
theorem kc_116_26 : xe_code 116 26 = some (.aload_n 0, []) := by decide +kernel
theorem kc_116_27 : xe_code 116 27 = some (.iconst (-1), []) := by decide +kernel
theorem kc_116_28 : xe_code 116 28 = some (.invokevirtual 72, [90, 1, 407, 0]) := by decide +kernel
theorem kc_116_31 : xe_code 116 31 = some (.ireturn, []) := by decide +kernel
theorem kc_116_32 : xe_code 116 32 = some (.iload_n 3, []) := by decide +kernel
theorem kc_116_33 : xe_code 116 33 = some (.iconst 1, []) := by decide +kernel
theorem kc_116_34 : xe_code 116 34 = some (.if_icmp .lt 8, [42]) := by decide +kernel
theorem kc_116_37 : xe_code 116 37 = some (.iload 4, []) := by decide +kernel
theorem kc_116_39 : xe_code 116 39 = some (.ifCond .ge 10, [49]) := by decide +kernel
theorem kc_116_42 : xe_code 116 42 = some (.aload_n 0, []) := by decide +kernel
theorem kc_116_43 : xe_code 116 43 = some (.bipush (-4), []) := by decide +kernel
theorem kc_116_45 : xe_code 116 45 = some (.invokevirtual 72, [90, 1, 407, 0]) := by decide +kernel
theorem kc_116_48 : xe_code 116 48 = some (.ireturn, []) := by decide +kernel
theorem kc_116_49 : xe_code 116 49 = some (.iload_n 3, []) := by decide +kernel
theorem kc_116_50 : xe_code 116 50 = some (.bipush 99, []) := by decide +kernel
theorem kc_116_52 : xe_code 116 52 = some (.if_icmp .gt 23, [75]) := by decide +kernel
theorem kc_116_55 : xe_code 116 55 = some (.iload 4, []) := by decide +kernel
theorem kc_116_57 : xe_code 116 57 = some (.sipush 600, []) := by decide +kernel
theorem kc_116_60 : xe_code 116 60 = some (.if_icmp .gt 15, [75]) := by decide +kernel
theorem kc_116_63 : xe_code 116 63 = some (.aload_n 0, []) := by decide +kernel
theorem kc_116_64 : xe_code 116 64 = some (.getfield 10, [0, 0, 369]) := by decide +kernel
theorem kc_116_67 : xe_code 116 67 = some (.getfield 178, [4, 5, 178]) := by decide +kernel
theorem kc_116_70 : xe_code 116 70 = some (.bipush 10, []) := by decide +kernel
theorem kc_116_72 : xe_code 116 72 = some (.if_icmp .lt 10, [82]) := by decide +kernel
theorem kc_116_75 : xe_code 116 75 = some (.aload_n 0, []) := by decide +kernel
theorem kc_116_76 : xe_code 116 76 = some (.bipush (-6), []) := by decide +kernel
theorem kc_116_78 : xe_code 116 78 = some (.invokevirtual 72, [90, 1, 407, 0]) := by decide +kernel
theorem kc_116_81 : xe_code 116 81 = some (.ireturn, []) := by decide +kernel
theorem kc_116_82 : xe_code 116 82 = some (.aload_n 0, []) := by decide +kernel
theorem kc_116_83 : xe_code 116 83 = some (.getfield 10, [0, 0, 369]) := by decide +kernel
theorem kc_116_86 : xe_code 116 86 = some (.iload_n 1, []) := by decide +kernel
theorem kc_116_87 : xe_code 116 87 = some (.iload_n 2, []) := by decide +kernel
theorem kc_116_88 : xe_code 116 88 = some (.iload_n 3, []) := by decide +kernel
theorem kc_116_89 : xe_code 116 89 = some (.iload 4, []) := by decide +kernel
theorem kc_116_91 : xe_code 116 91 = some (.invokevirtual 181, [119, 4, 536, 4]) := by decide +kernel
theorem kc_116_94 : xe_code 116 94 = some (.ireturn, []) := by decide +kernel
theorem kc_117_0 : xe_code 117 0 = some (.iload_n 0, []) := by decide +kernel
theorem kc_117_1 : xe_code 117 1 = some (.ifCond .lt 12, [13]) := by decide +kernel
theorem kc_117_4 : xe_code 117 4 = some (.iload_n 0, []) := by decide +kernel
theorem kc_117_5 : xe_code 117 5 = some (.iconst 4, []) := by decide +kernel
theorem kc_117_6 : xe_code 117 6 = some (.if_icmp .ge 7, [13]) := by decide +kernel
theorem kc_117_9 : xe_code 117 9 = some (.iconst 1, []) := by decide +kernel
theorem kc_117_10 : xe_code 117 10 = some (.goto 4, [14]) := by decide +kernel
theorem kc_117_13 : xe_code 117 13 = some (.iconst 0, []) := by decide +kernel
theorem kc_117_14 : xe_code 117 14 = some (.ireturn, []) := by decide +kernel
theorem kc_118_0 : xe_code 118 0 = some (.iload_n 1, []) := by decide +kernel
theorem kc_118_1 : xe_code 118 1 = some (.iconst 3, []) := by decide +kernel
theorem kc_118_2 : xe_code 118 2 = some (.if_icmp .ne 8, [10]) := by decide +kernel
theorem kc_118_5 : xe_code 118 5 = some (.iload_n 2, []) := by decide +kernel
theorem kc_118_6 : xe_code 118 6 = some (.invokestatic 48, [89, 1, 423, 0]) := by decide +kernel
theorem kc_118_9 : xe_code 118 9 = some (.ireturn, []) := by decide +kernel
theorem kc_118_10 : xe_code 118 10 = some (.aload_n 0, []) := by decide +kernel
theorem kc_118_11 : xe_code 118 11 = some (.iload_n 2, []) := by decide +kernel
theorem kc_118_12 : xe_code 118 12 = some (.invokevirtual 72, [108, 1, 488, 4]) := by decide +kernel
theorem kc_118_15 : xe_code 118 15 = some (.ifCond .eq 23, [38]) := by decide +kernel
theorem kc_118_18 : xe_code 118 18 = some (.iload_n 1, []) := by decide +kernel
theorem kc_118_19 : xe_code 118 19 = some (.ifCond .ne 15, [34]) := by decide +kernel
theorem kc_118_22 : xe_code 118 22 = some (.aload_n 0, []) := by decide +kernel
theorem kc_118_23 : xe_code 118 23 = some (.getfield 19, [4, 1, 172]) := by decide +kernel
theorem kc_118_26 : xe_code 118 26 = some (.iload_n 2, []) := by decide +kernel
theorem kc_118_27 : xe_code 118 27 = some (.aaload, []) := by decide +kernel
theorem kc_118_28 : xe_code 118 28 = some (.getfield 75, [11, 2, 136]) := by decide +kernel
theorem kc_118_31 : xe_code 118 31 = some (.ifCond .eq 7, [38]) := by decide +kernel
theorem kc_118_34 : xe_code 118 34 = some (.iconst 1, []) := by decide +kernel
theorem kc_118_35 : xe_code 118 35 = some (.goto 4, [39]) := by decide +kernel
theorem kc_118_38 : xe_code 118 38 = some (.iconst 0, []) := by decide +kernel
theorem kc_118_39 : xe_code 118 39 = some (.ireturn, []) := by decide +kernel
theorem kc_119_0 : xe_code 119 0 = some (.aload_n 0, []) := by decide +kernel
theorem kc_119_1 : xe_code 119 1 = some (.getfield 79, [4, 5, 177]) := by decide +kernel
theorem kc_119_4 : xe_code 119 4 = some (.bipush 10, []) := by decide +kernel
theorem kc_119_6 : xe_code 119 6 = some (.if_icmp .lt 6, [12]) := by decide +kernel
theorem kc_119_9 : xe_code 119 9 = some (.bipush (-9), []) := by decide +kernel
theorem kc_119_11 : xe_code 119 11 = some (.ireturn, []) := by decide +kernel
theorem kc_119_12 : xe_code 119 12 = some (.aload_n 0, []) := by decide +kernel
theorem kc_119_13 : xe_code 119 13 = some (.getfield 25, [4, 2, 174]) := by decide +kernel
theorem kc_119_16 : xe_code 119 16 = some (.aload_n 0, []) := by decide +kernel
theorem kc_119_17 : xe_code 119 17 = some (.getfield 79, [4, 5, 177]) := by decide +kernel
theorem kc_119_20 : xe_code 119 20 = some (.aaload, []) := by decide +kernel
theorem kc_119_21 : xe_code 119 21 = some (.astore 5, []) := by decide +kernel
theorem kc_119_23 : xe_code 119 23 = some (.aload 5, []) := by decide +kernel
theorem kc_119_25 : xe_code 119 25 = some (.iload_n 1, []) := by decide +kernel
theorem kc_119_26 : xe_code 119 26 = some (.putfield 82, [1, 0, 157]) := by decide +kernel
theorem kc_119_29 : xe_code 119 29 = some (.aload 5, []) := by decide +kernel
theorem kc_119_31 : xe_code 119 31 = some (.iload_n 2, []) := by decide +kernel
theorem kc_119_32 : xe_code 119 32 = some (.putfield 85, [1, 1, 158]) := by decide +kernel
theorem kc_119_35 : xe_code 119 35 = some (.aload 5, []) := by decide +kernel
theorem kc_119_37 : xe_code 119 37 = some (.iload_n 3, []) := by decide +kernel
theorem kc_119_38 : xe_code 119 38 = some (.putfield 88, [1, 2, 159]) := by decide +kernel
theorem kc_119_41 : xe_code 119 41 = some (.aload 5, []) := by decide +kernel
theorem kc_119_43 : xe_code 119 43 = some (.iload 4, []) := by decide +kernel
theorem kc_119_45 : xe_code 119 45 = some (.putfield 91, [1, 3, 160]) := by decide +kernel
theorem kc_119_48 : xe_code 119 48 = some (.aload_n 0, []) := by decide +kernel
theorem kc_119_49 : xe_code 119 49 = some (.dup, []) := by decide +kernel
theorem kc_119_50 : xe_code 119 50 = some (.getfield 79, [4, 5, 177]) := by decide +kernel
theorem kc_119_53 : xe_code 119 53 = some (.iconst 1, []) := by decide +kernel
theorem kc_119_54 : xe_code 119 54 = some (.iadd, []) := by decide +kernel
theorem kc_119_55 : xe_code 119 55 = some (.putfield 79, [4, 5, 177]) := by decide +kernel
theorem kc_119_58 : xe_code 119 58 = some (.aload_n 0, []) := by decide +kernel
theorem kc_119_59 : xe_code 119 59 = some (.getfield 79, [4, 5, 177]) := by decide +kernel
theorem kc_119_62 : xe_code 119 62 = some (.iconst 1, []) := by decide +kernel
theorem kc_119_63 : xe_code 119 63 = some (.isub, []) := by decide +kernel
theorem kc_119_64 : xe_code 119 64 = some (.ireturn, []) := by decide +kernel
theorem kc_120_0 : xe_code 120 0 = some (.iload_n 1, []) := by decide +kernel
theorem kc_120_1 : xe_code 120 1 = some (.ifCond .lt 14, [15]) := by decide +kernel
theorem kc_120_4 : xe_code 120 4 = some (.iload_n 1, []) := by decide +kernel
theorem kc_120_5 : xe_code 120 5 = some (.aload_n 0, []) := by decide +kernel
theorem kc_120_6 : xe_code 120 6 = some (.getfield 10, [0, 0, 369]) := by decide +kernel
theorem kc_120_9 : xe_code 120 9 = some (.getfield 178, [4, 5, 178]) := by decide +kernel
theorem kc_120_12 : xe_code 120 12 = some (.if_icmp .lt 9, [21]) := by decide +kernel
theorem kc_120_15 : xe_code 120 15 = some (.aload_n 0, []) := by decide +kernel
theorem kc_120_16 : xe_code 120 16 = some (.iconst (-1), []) := by decide +kernel
theorem kc_120_17 : xe_code 120 17 = some (.invokevirtual 72, [90, 1, 407, 0]) := by decide +kernel
theorem kc_120_20 : xe_code 120 20 = some (.ireturn, []) := by decide +kernel
theorem kc_120_21 : xe_code 120 21 = some (.iconst 1, []) := by decide +kernel
theorem kc_120_22 : xe_code 120 22 = some (.iload_n 1, []) := by decide +kernel
theorem kc_120_23 : xe_code 120 23 = some (.ishl, []) := by decide +kernel
theorem kc_120_24 : xe_code 120 24 = some (.istore_n 3, []) := by decide +kernel
theorem kc_120_25 : xe_code 120 25 = some (.aload_n 0, []) := by decide +kernel
theorem kc_120_26 : xe_code 120 26 = some (.getfield 19, [0, 1, 370]) := by decide +kernel
theorem kc_120_29 : xe_code 120 29 = some (.getfield 184, [9, 2, 210]) := by decide +kernel
theorem kc_120_32 : xe_code 120 32 = some (.iload_n 3, []) := by decide +kernel
theorem kc_120_33 : xe_code 120 33 = some (.iand, []) := by decide +kernel
theorem kc_120_34 : xe_code 120 34 = some (.ifCond .eq 7, [41]) := by decide +kernel
theorem kc_120_37 : xe_code 120 37 = some (.iconst 1, []) := by decide +kernel
theorem kc_120_38 : xe_code 120 38 = some (.goto 4, [42]) := by decide +kernel
theorem kc_120_41 : xe_code 120 41 = some (.iconst 0, []) := by decide +kernel
theorem kc_120_42 : xe_code 120 42 = some (.istore 4, []) := by decide +kernel
theorem kc_120_44 : xe_code 120 44 = some (.iload 4, []) := by decide +kernel
theorem kc_120_46 : xe_code 120 46 = some (.iload_n 2, []) := by decide +kernel
theorem kc_120_47 : xe_code 120 47 = some (.if_icmp .ne 5, [52]) := by decide +kernel
theorem kc_120_50 : xe_code 120 50 = some (.iconst 0, []) := by decide +kernel
theorem kc_120_51 : xe_code 120 51 = some (.ireturn, []) := by decide +kernel
theorem kc_120_52 : xe_code 120 52 = some (.aload_n 0, []) := by decide +kernel
theorem kc_120_53 : xe_code 120 53 = some (.getfield 19, [0, 1, 370]) := by decide +kernel
theorem kc_120_56 : xe_code 120 56 = some (.dup, []) := by decide +kernel
theorem kc_120_57 : xe_code 120 57 = some (.getfield 184, [9, 2, 210]) := by decide +kernel
theorem kc_120_60 : xe_code 120 60 = some (.iload_n 3, []) := by decide +kernel
theorem kc_120_61 : xe_code 120 61 = some (.ixor, []) := by decide +kernel
theorem kc_120_62 : xe_code 120 62 = some (.putfield 184, [9, 2, 210]) := by decide +kernel
theorem kc_120_65 : xe_code 120 65 = some (.iconst 1, []) := by decide +kernel
theorem kc_120_66 : xe_code 120 66 = some (.ireturn, []) := by decide +kernel
theorem kc_121_0 : xe_code 121 0 = some (.iload_n 1, []) := by decide +kernel
theorem kc_121_1 : xe_code 121 1 = some (.iconst 1, []) := by decide +kernel
theorem kc_121_2 : xe_code 121 2 = some (.if_icmp .ge 10, [12]) := by decide +kernel
theorem kc_121_5 : xe_code 121 5 = some (.aload_n 0, []) := by decide +kernel
theorem kc_121_6 : xe_code 121 6 = some (.bipush (-4), []) := by decide +kernel
theorem kc_121_8 : xe_code 121 8 = some (.invokevirtual 72, [90, 1, 407, 0]) := by decide +kernel
theorem kc_121_11 : xe_code 121 11 = some (.ireturn, []) := by decide +kernel
theorem kc_121_12 : xe_code 121 12 = some (.iload_n 1, []) := by decide +kernel
theorem kc_121_13 : xe_code 121 13 = some (.sipush 600, []) := by decide +kernel
theorem kc_121_16 : xe_code 121 16 = some (.aload_n 0, []) := by decide +kernel
theorem kc_121_17 : xe_code 121 17 = some (.getfield 148, [0, 9, 378]) := by decide +kernel
theorem kc_121_20 : xe_code 121 20 = some (.isub, []) := by decide +kernel
theorem kc_121_21 : xe_code 121 21 = some (.if_icmp .le 10, [31]) := by decide +kernel
theorem kc_121_24 : xe_code 121 24 = some (.aload_n 0, []) := by decide +kernel
theorem kc_121_25 : xe_code 121 25 = some (.bipush (-6), []) := by decide +kernel
theorem kc_121_27 : xe_code 121 27 = some (.invokevirtual 72, [90, 1, 407, 0]) := by decide +kernel
theorem kc_121_30 : xe_code 121 30 = some (.ireturn, []) := by decide +kernel
theorem kc_121_31 : xe_code 121 31 = some (.aload_n 0, []) := by decide +kernel
theorem kc_121_32 : xe_code 121 32 = some (.getfield 28, [0, 2, 371]) := by decide +kernel
theorem kc_121_35 : xe_code 121 35 = some (.invokevirtual 85, [91, 0, 415, 3]) := by decide +kernel
theorem kc_121_38 : xe_code 121 38 = some (.iconst 0, []) := by decide +kernel
theorem kc_121_39 : xe_code 121 39 = some (.istore_n 2, []) := by decide +kernel
theorem kc_121_40 : xe_code 121 40 = some (.iload_n 2, []) := by decide +kernel
theorem kc_121_41 : xe_code 121 41 = some (.iload_n 1, []) := by decide +kernel
theorem kc_121_42 : xe_code 121 42 = some (.if_icmp .ge 13, [55]) := by decide +kernel
theorem kc_121_45 : xe_code 121 45 = some (.aload_n 0, []) := by decide +kernel
theorem kc_121_46 : xe_code 121 46 = some (.invokevirtual 187, [122, 0, 548, 0]) := by decide +kernel
theorem kc_121_49 : xe_code 121 49 = some (.iinc 2 1, []) := by decide +kernel
theorem kc_121_52 : xe_code 121 52 = some (.goto (-12), [40]) := by decide +kernel
theorem kc_121_55 : xe_code 121 55 = some (.aload_n 0, []) := by decide +kernel
theorem kc_121_56 : xe_code 121 56 = some (.getfield 148, [0, 9, 378]) := by decide +kernel
theorem kc_121_59 : xe_code 121 59 = some (.ireturn, []) := by decide +kernel
theorem kc_122_0 : xe_code 122 0 = some (.aload_n 0, []) := by decide +kernel
theorem kc_122_1 : xe_code 122 1 = some (.invokevirtual 318, [123, 0, 552, 0]) := by decide +kernel
theorem kc_122_4 : xe_code 122 4 = some (.aload_n 0, []) := by decide +kernel
theorem kc_122_5 : xe_code 122 5 = some (.getfield 10, [0, 0, 369]) := by decide +kernel
theorem kc_122_8 : xe_code 122 8 = some (.aload_n 0, []) := by decide +kernel
theorem kc_122_9 : xe_code 122 9 = some (.getfield 19, [0, 1, 370]) := by decide +kernel
theorem kc_122_12 : xe_code 122 12 = some (.aload_n 0, []) := by decide +kernel
theorem kc_122_13 : xe_code 122 13 = some (.getfield 148, [0, 9, 378]) := by decide +kernel
theorem kc_122_16 : xe_code 122 16 = some (.invokevirtual 321, [124, 2, 556, 4]) := by decide +kernel
theorem kc_122_19 : xe_code 122 19 = some (.aload_n 0, []) := by decide +kernel
theorem kc_122_20 : xe_code 122 20 = some (.getfield 10, [0, 0, 369]) := by decide +kernel
theorem kc_122_23 : xe_code 122 23 = some (.aload_n 0, []) := by decide +kernel
theorem kc_122_24 : xe_code 122 24 = some (.getfield 19, [0, 1, 370]) := by decide +kernel
theorem kc_122_27 : xe_code 122 27 = some (.aload_n 0, []) := by decide +kernel
theorem kc_122_28 : xe_code 122 28 = some (.getfield 148, [0, 9, 378]) := by decide +kernel
theorem kc_122_31 : xe_code 122 31 = some (.invokevirtual 325, [135, 2, 605, 4]) := by decide +kernel
theorem kc_122_34 : xe_code 122 34 = some (.aload_n 0, []) := by decide +kernel
theorem kc_122_35 : xe_code 122 35 = some (.dup, []) := by decide +kernel
theorem kc_122_36 : xe_code 122 36 = some (.getfield 148, [0, 9, 378]) := by decide +kernel
theorem kc_122_39 : xe_code 122 39 = some (.iconst 1, []) := by decide +kernel
theorem kc_122_40 : xe_code 122 40 = some (.iadd, []) := by decide +kernel
theorem kc_122_41 : xe_code 122 41 = some (.putfield 148, [0, 9, 378]) := by decide +kernel
theorem kc_122_44 : xe_code 122 44 = some (.aload_n 0, []) := by decide +kernel
theorem kc_122_45 : xe_code 122 45 = some (.invokevirtual 328, [136, 0, 609, 0]) := by decide +kernel
theorem kc_122_48 : xe_code 122 48 = some (.return_, []) := by decide +kernel
theorem kc_123_0 : xe_code 123 0 = some (.iconst 0, []) := by decide +kernel
theorem kc_123_1 : xe_code 123 1 = some (.istore_n 1, []) := by decide +kernel
theorem kc_123_2 : xe_code 123 2 = some (.iload_n 1, []) := by decide +kernel
theorem kc_123_3 : xe_code 123 3 = some (.aload_n 0, []) := by decide +kernel
theorem kc_123_4 : xe_code 123 4 = some (.getfield 243, [0, 8, 377]) := by decide +kernel
theorem kc_123_7 : xe_code 123 7 = some (.if_icmp .ge 56, [63]) := by decide +kernel
theorem kc_123_10 : xe_code 123 10 = some (.iload_n 1, []) := by decide +kernel
theorem kc_123_11 : xe_code 123 11 = some (.bipush 20, []) := by decide +kernel
theorem kc_123_13 : xe_code 123 13 = some (.if_icmp .ge 50, [63]) := by decide +kernel
theorem kc_123_16 : xe_code 123 16 = some (.aload_n 0, []) := by decide +kernel
theorem kc_123_17 : xe_code 123 17 = some (.getfield 55, [0, 6, 375]) := by decide +kernel
theorem kc_123_20 : xe_code 123 20 = some (.iload_n 1, []) := by decide +kernel
theorem kc_123_21 : xe_code 123 21 = some (.aaload, []) := by decide +kernel
theorem kc_123_22 : xe_code 123 22 = some (.astore_n 2, []) := by decide +kernel
theorem kc_123_23 : xe_code 123 23 = some (.aload_n 2, []) := by decide +kernel
theorem kc_123_24 : xe_code 123 24 = some (.getfield 253, [10, 3, 353]) := by decide +kernel
theorem kc_123_27 : xe_code 123 27 = some (.aload_n 0, []) := by decide +kernel
theorem kc_123_28 : xe_code 123 28 = some (.getfield 148, [0, 9, 378]) := by decide +kernel
theorem kc_123_31 : xe_code 123 31 = some (.if_icmp .ne 26, [57]) := by decide +kernel
theorem kc_123_34 : xe_code 123 34 = some (.aload_n 2, []) := by decide +kernel
theorem kc_123_35 : xe_code 123 35 = some (.aload_n 0, []) := by decide +kernel
theorem kc_123_36 : xe_code 123 36 = some (.getfield 10, [0, 0, 369]) := by decide +kernel
theorem kc_123_39 : xe_code 123 39 = some (.aload_n 2, []) := by decide +kernel
theorem kc_123_40 : xe_code 123 40 = some (.getfield 246, [10, 0, 350]) := by decide +kernel
theorem kc_123_43 : xe_code 123 43 = some (.aload_n 2, []) := by decide +kernel
theorem kc_123_44 : xe_code 123 44 = some (.getfield 247, [10, 1, 351]) := by decide +kernel
theorem kc_123_47 : xe_code 123 47 = some (.aload_n 2, []) := by decide +kernel
theorem kc_123_48 : xe_code 123 48 = some (.getfield 250, [10, 2, 352]) := by decide +kernel
theorem kc_123_51 : xe_code 123 51 = some (.invokevirtual 88, [92, 3, 419, 4]) := by decide +kernel
theorem kc_123_54 : xe_code 123 54 = some (.putfield 331, [10, 5, 355]) := by decide +kernel
theorem kc_123_57 : xe_code 123 57 = some (.iinc 1 1, []) := by decide +kernel
theorem kc_123_60 : xe_code 123 60 = some (.goto (-58), [2]) := by decide +kernel
theorem kc_123_63 : xe_code 123 63 = some (.return_, []) := by decide +kernel
theorem kc_124_0 : xe_code 124 0 = some (.aload_n 0, []) := by decide +kernel
theorem kc_124_1 : xe_code 124 1 = some (.getfield 34, [4, 3, 175]) := by decide +kernel
theorem kc_124_4 : xe_code 124 4 = some (.iload_n 2, []) := by decide +kernel
theorem kc_124_5 : xe_code 124 5 = some (.invokevirtual 98, [99, 1, 494, 8]) := by decide +kernel
theorem kc_124_8 : xe_code 124 8 = some (.istore_n 3, []) := by decide +kernel
theorem kc_124_9 : xe_code 124 9 = some (.aload_n 0, []) := by decide +kernel
theorem kc_124_10 : xe_code 124 10 = some (.aload_n 1, []) := by decide +kernel
theorem kc_124_11 : xe_code 124 11 = some (.iload_n 2, []) := by decide +kernel
theorem kc_124_12 : xe_code 124 12 = some (.invokevirtual 103, [125, 2, 560, 4]) := by decide +kernel
theorem kc_124_15 : xe_code 124 15 = some (.iconst 0, []) := by decide +kernel
theorem kc_124_16 : xe_code 124 16 = some (.istore 4, []) := by decide +kernel
theorem kc_124_18 : xe_code 124 18 = some (.iload 4, []) := by decide +kernel
theorem kc_124_20 : xe_code 124 20 = some (.bipush 6, []) := by decide +kernel
theorem kc_124_22 : xe_code 124 22 = some (.if_icmp .ge 30, [52]) := by decide +kernel
theorem kc_124_25 : xe_code 124 25 = some (.aload_n 1, []) := by decide +kernel
theorem kc_124_26 : xe_code 124 26 = some (.getfield 107, [9, 3, 214]) := by decide +kernel
theorem kc_124_29 : xe_code 124 29 = some (.iload 4, []) := by decide +kernel
theorem kc_124_31 : xe_code 124 31 = some (.ishr, []) := by decide +kernel
theorem kc_124_32 : xe_code 124 32 = some (.iconst 1, []) := by decide +kernel
theorem kc_124_33 : xe_code 124 33 = some (.iand, []) := by decide +kernel
theorem kc_124_34 : xe_code 124 34 = some (.ifCond .eq 12, [46]) := by decide +kernel
theorem kc_124_37 : xe_code 124 37 = some (.aload_n 0, []) := by decide +kernel
theorem kc_124_38 : xe_code 124 38 = some (.aload_n 1, []) := by decide +kernel
theorem kc_124_39 : xe_code 124 39 = some (.iload 4, []) := by decide +kernel
theorem kc_124_41 : xe_code 124 41 = some (.iload_n 2, []) := by decide +kernel
theorem kc_124_42 : xe_code 124 42 = some (.iload_n 3, []) := by decide +kernel
theorem kc_124_43 : xe_code 124 43 = some (.invokevirtual 111, [128, 4, 573, 4]) := by decide +kernel
theorem kc_124_46 : xe_code 124 46 = some (.iinc 4 1, []) := by decide +kernel
theorem kc_124_49 : xe_code 124 49 = some (.goto (-31), [18]) := by decide +kernel
theorem kc_124_52 : xe_code 124 52 = some (.aload_n 0, []) := by decide +kernel
theorem kc_124_53 : xe_code 124 53 = some (.aload_n 1, []) := by decide +kernel
theorem kc_124_54 : xe_code 124 54 = some (.iload_n 2, []) := by decide +kernel
theorem kc_124_55 : xe_code 124 55 = some (.invokevirtual 115, [132, 2, 593, 4]) := by decide +kernel
theorem kc_124_58 : xe_code 124 58 = some (.aload_n 0, []) := by decide +kernel
theorem kc_124_59 : xe_code 124 59 = some (.aload_n 1, []) := by decide +kernel
theorem kc_124_60 : xe_code 124 60 = some (.invokevirtual 118, [134, 1, 601, 4]) := by decide +kernel
theorem kc_124_63 : xe_code 124 63 = some (.return_, []) := by decide +kernel
theorem kc_125_0 : xe_code 125 0 = some (.iconst 0, []) := by decide +kernel
theorem kc_125_1 : xe_code 125 1 = some (.istore_n 3, []) := by decide +kernel
theorem kc_125_2 : xe_code 125 2 = some (.iload_n 3, []) := by decide +kernel
theorem kc_125_3 : xe_code 125 3 = some (.aload_n 0, []) := by decide +kernel
theorem kc_125_4 : xe_code 125 4 = some (.getfield 79, [4, 5, 177]) := by decide +kernel
theorem kc_125_7 : xe_code 125 7 = some (.if_icmp .ge 60, [67]) := by decide +kernel
theorem kc_125_10 : xe_code 125 10 = some (.iload_n 3, []) := by decide +kernel
theorem kc_125_11 : xe_code 125 11 = some (.bipush 10, []) := by decide +kernel
theorem kc_125_13 : xe_code 125 13 = some (.if_icmp .ge 54, [67]) := by decide +kernel
theorem kc_125_16 : xe_code 125 16 = some (.aload_n 0, []) := by decide +kernel
theorem kc_125_17 : xe_code 125 17 = some (.getfield 25, [4, 2, 174]) := by decide +kernel
theorem kc_125_20 : xe_code 125 20 = some (.iload_n 3, []) := by decide +kernel
theorem kc_125_21 : xe_code 125 21 = some (.aaload, []) := by decide +kernel
theorem kc_125_22 : xe_code 125 22 = some (.getfield 82, [1, 0, 157]) := by decide +kernel
theorem kc_125_25 : xe_code 125 25 = some (.iconst 3, []) := by decide +kernel
theorem kc_125_26 : xe_code 125 26 = some (.if_icmp .ne 35, [61]) := by decide +kernel
theorem kc_125_29 : xe_code 125 29 = some (.aload_n 0, []) := by decide +kernel
theorem kc_125_30 : xe_code 125 30 = some (.aload_n 1, []) := by decide +kernel
theorem kc_125_31 : xe_code 125 31 = some (.iload_n 3, []) := by decide +kernel
theorem kc_125_32 : xe_code 125 32 = some (.iload_n 2, []) := by decide +kernel
theorem kc_125_33 : xe_code 125 33 = some (.invokevirtual 134, [126, 3, 564, 4]) := by decide +kernel
theorem kc_125_36 : xe_code 125 36 = some (.ifCond .eq 25, [61]) := by decide +kernel
theorem kc_125_39 : xe_code 125 39 = some (.aload_n 1, []) := by decide +kernel
theorem kc_125_40 : xe_code 125 40 = some (.aload_n 0, []) := by decide +kernel
theorem kc_125_41 : xe_code 125 41 = some (.getfield 25, [4, 2, 174]) := by decide +kernel
theorem kc_125_44 : xe_code 125 44 = some (.iload_n 3, []) := by decide +kernel
theorem kc_125_45 : xe_code 125 45 = some (.aaload, []) := by decide +kernel
theorem kc_125_46 : xe_code 125 46 = some (.getfield 85, [1, 1, 158]) := by decide +kernel
theorem kc_125_49 : xe_code 125 49 = some (.aload_n 0, []) := by decide +kernel
theorem kc_125_50 : xe_code 125 50 = some (.getfield 25, [4, 2, 174]) := by decide +kernel
theorem kc_125_53 : xe_code 125 53 = some (.iload_n 3, []) := by decide +kernel
theorem kc_125_54 : xe_code 125 54 = some (.aaload, []) := by decide +kernel
theorem kc_125_55 : xe_code 125 55 = some (.getfield 88, [1, 2, 159]) := by decide +kernel
theorem kc_125_58 : xe_code 125 58 = some (.invokevirtual 138, [127, 2, 568, 9]) := by decide +kernel
theorem kc_125_61 : xe_code 125 61 = some (.iinc 3 1, []) := by decide +kernel
theorem kc_125_64 : xe_code 125 64 = some (.goto (-62), [2]) := by decide +kernel
theorem kc_125_67 : xe_code 125 67 = some (.return_, []) := by decide +kernel
theorem kc_126_0 : xe_code 126 0 = some (.aload_n 1, []) := by decide +kernel
theorem kc_126_1 : xe_code 126 1 = some (.getfield 131, [9, 2, 211]) := by decide +kernel
theorem kc_126_4 : xe_code 126 4 = some (.iload_n 2, []) := by decide +kernel
theorem kc_126_5 : xe_code 126 5 = some (.ishr, []) := by decide +kernel
theorem kc_126_6 : xe_code 126 6 = some (.iconst 1, []) := by decide +kernel
theorem kc_126_7 : xe_code 126 7 = some (.iand, []) := by decide +kernel
theorem kc_126_8 : xe_code 126 8 = some (.ifCond .eq 20, [28]) := by decide +kernel
theorem kc_126_11 : xe_code 126 11 = some (.iload_n 3, []) := by decide +kernel
theorem kc_126_12 : xe_code 126 12 = some (.aload_n 0, []) := by decide +kernel
theorem kc_126_13 : xe_code 126 13 = some (.getfield 25, [4, 2, 174]) := by decide +kernel
theorem kc_126_16 : xe_code 126 16 = some (.iload_n 2, []) := by decide +kernel
theorem kc_126_17 : xe_code 126 17 = some (.aaload, []) := by decide +kernel
theorem kc_126_18 : xe_code 126 18 = some (.getfield 91, [1, 3, 160]) := by decide +kernel
theorem kc_126_21 : xe_code 126 21 = some (.if_icmp .lt 7, [28]) := by decide +kernel
theorem kc_126_24 : xe_code 126 24 = some (.iconst 1, []) := by decide +kernel
theorem kc_126_25 : xe_code 126 25 = some (.goto 4, [29]) := by decide +kernel
theorem kc_126_28 : xe_code 126 28 = some (.iconst 0, []) := by decide +kernel
theorem kc_126_29 : xe_code 126 29 = some (.ireturn, []) := by decide +kernel
theorem kc_127_0 : xe_code 127 0 = some (.iload_n 1, []) := by decide +kernel
theorem kc_127_1 : xe_code 127 1 = some (.ifCond .lt 39, [40]) := by decide +kernel
theorem kc_127_4 : xe_code 127 4 = some (.iload_n 1, []) := by decide +kernel
theorem kc_127_5 : xe_code 127 5 = some (.aload_n 0, []) := by decide +kernel
theorem kc_127_6 : xe_code 127 6 = some (.getfield 9, [9, 0, 202]) := by decide +kernel
theorem kc_127_9 : xe_code 127 9 = some (.arraylength, []) := by decide +kernel
theorem kc_127_10 : xe_code 127 10 = some (.if_icmp .ge 30, [40]) := by decide +kernel
theorem kc_127_13 : xe_code 127 13 = some (.aload_n 0, []) := by decide +kernel
theorem kc_127_14 : xe_code 127 14 = some (.getfield 9, [9, 0, 202]) := by decide +kernel
theorem kc_127_17 : xe_code 127 17 = some (.iload_n 1, []) := by decide +kernel
theorem kc_127_18 : xe_code 127 18 = some (.iaload, []) := by decide +kernel
theorem kc_127_19 : xe_code 127 19 = some (.iload_n 2, []) := by decide +kernel
theorem kc_127_20 : xe_code 127 20 = some (.iadd, []) := by decide +kernel
theorem kc_127_21 : xe_code 127 21 = some (.istore_n 3, []) := by decide +kernel
theorem kc_127_22 : xe_code 127 22 = some (.aload_n 0, []) := by decide +kernel
theorem kc_127_23 : xe_code 127 23 = some (.getfield 9, [9, 0, 202]) := by decide +kernel
theorem kc_127_26 : xe_code 127 26 = some (.iload_n 1, []) := by decide +kernel
theorem kc_127_27 : xe_code 127 27 = some (.iload_n 3, []) := by decide +kernel
theorem kc_127_28 : xe_code 127 28 = some (.ldc 31, [99999, 572]) := by decide +kernel
theorem kc_127_30 : xe_code 127 30 = some (.if_icmp .le 8, [38]) := by decide +kernel
theorem kc_127_33 : xe_code 127 33 = some (.ldc 31, [99999, 572]) := by decide +kernel
theorem kc_127_35 : xe_code 127 35 = some (.goto 4, [39]) := by decide +kernel
theorem kc_127_38 : xe_code 127 38 = some (.iload_n 3, []) := by decide +kernel
theorem kc_127_39 : xe_code 127 39 = some (.iastore, []) := by decide +kernel
theorem kc_127_40 : xe_code 127 40 = some (.return_, []) := by decide +kernel
theorem kc_128_0 : xe_code 128 0 = some (.aload_n 0, []) := by decide +kernel
theorem kc_128_1 : xe_code 128 1 = some (.getfield 11, [4, 0, 170]) := by decide +kernel
theorem kc_128_4 : xe_code 128 4 = some (.iload_n 2, []) := by decide +kernel
theorem kc_128_5 : xe_code 128 5 = some (.aaload, []) := by decide +kernel
theorem kc_128_6 : xe_code 128 6 = some (.astore 5, []) := by decide +kernel
theorem kc_128_8 : xe_code 128 8 = some (.aload_n 1, []) := by decide +kernel
theorem kc_128_9 : xe_code 128 9 = some (.iload_n 2, []) := by decide +kernel
theorem kc_128_10 : xe_code 128 10 = some (.aload 5, []) := by decide +kernel
theorem kc_128_12 : xe_code 128 12 = some (.getfield 142, [7, 1, 119]) := by decide +kernel
theorem kc_128_15 : xe_code 128 15 = some (.iload_n 3, []) := by decide +kernel
theorem kc_128_16 : xe_code 128 16 = some (.bipush 24, []) := by decide +kernel
theorem kc_128_18 : xe_code 128 18 = some (.invokestatic 145, [3, 2, 577, 0]) := by decide +kernel
theorem kc_128_21 : xe_code 128 21 = some (.iaload, []) := by decide +kernel
theorem kc_128_22 : xe_code 128 22 = some (.invokevirtual 138, [127, 2, 568, 9]) := by decide +kernel
theorem kc_128_25 : xe_code 128 25 = some (.aload_n 1, []) := by decide +kernel
theorem kc_128_26 : xe_code 128 26 = some (.getfield 148, [9, 0, 204]) := by decide +kernel
theorem kc_128_29 : xe_code 128 29 = some (.iload_n 2, []) := by decide +kernel
theorem kc_128_30 : xe_code 128 30 = some (.iaload, []) := by decide +kernel
theorem kc_128_31 : xe_code 128 31 = some (.istore 6, []) := by decide +kernel
theorem kc_128_33 : xe_code 128 33 = some (.aload 5, []) := by decide +kernel
theorem kc_128_35 : xe_code 128 35 = some (.getfield 94, [7, 0, 116]) := by decide +kernel
theorem kc_128_38 : xe_code 128 38 = some (.iconst 0, []) := by decide +kernel
theorem kc_128_39 : xe_code 128 39 = some (.iaload, []) := by decide +kernel
theorem kc_128_40 : xe_code 128 40 = some (.istore 7, []) := by decide +kernel
theorem kc_128_42 : xe_code 128 42 = some (.iload 7, []) := by decide +kernel
theorem kc_128_44 : xe_code 128 44 = some (.iload 4, []) := by decide +kernel
theorem kc_128_46 : xe_code 128 46 = some (.invokestatic 151, [102, 1, 580, 4]) := by decide +kernel
theorem kc_128_49 : xe_code 128 49 = some (.imul, []) := by decide +kernel
theorem kc_128_50 : xe_code 128 50 = some (.iconst 2, []) := by decide +kernel
theorem kc_128_51 : xe_code 128 51 = some (.idiv, []) := by decide +kernel
theorem kc_128_52 : xe_code 128 52 = some (.istore 8, []) := by decide +kernel
theorem kc_128_54 : xe_code 128 54 = some (.iload 6, []) := by decide +kernel
theorem kc_128_56 : xe_code 128 56 = some (.iload 6, []) := by decide +kernel
theorem kc_128_58 : xe_code 128 58 = some (.iload 8, []) := by decide +kernel
theorem kc_128_60 : xe_code 128 60 = some (.isub, []) := by decide +kernel
theorem kc_128_61 : xe_code 128 61 = some (.aload 5, []) := by decide +kernel
theorem kc_128_63 : xe_code 128 63 = some (.invokevirtual 154, [129, 0, 581, 7]) := by decide +kernel
theorem kc_128_66 : xe_code 128 66 = some (.imul, []) := by decide +kernel
theorem kc_128_67 : xe_code 128 67 = some (.bipush 100, []) := by decide +kernel
theorem kc_128_69 : xe_code 128 69 = some (.idiv, []) := by decide +kernel
theorem kc_128_70 : xe_code 128 70 = some (.isub, []) := by decide +kernel
theorem kc_128_71 : xe_code 128 71 = some (.istore 6, []) := by decide +kernel
theorem kc_128_73 : xe_code 128 73 = some (.aload 5, []) := by decide +kernel
theorem kc_128_75 : xe_code 128 75 = some (.getfield 94, [7, 0, 116]) := by decide +kernel
theorem kc_128_78 : xe_code 128 78 = some (.iconst 1, []) := by decide +kernel
theorem kc_128_79 : xe_code 128 79 = some (.iaload, []) := by decide +kernel
theorem kc_128_80 : xe_code 128 80 = some (.istore 9, []) := by decide +kernel
theorem kc_128_82 : xe_code 128 82 = some (.iload 7, []) := by decide +kernel
theorem kc_128_84 : xe_code 128 84 = some (.iload 9, []) := by decide +kernel
theorem kc_128_86 : xe_code 128 86 = some (.invokestatic 151, [102, 1, 580, 4]) := by decide +kernel
theorem kc_128_89 : xe_code 128 89 = some (.imul, []) := by decide +kernel
theorem kc_128_90 : xe_code 128 90 = some (.istore 10, []) := by decide +kernel
theorem kc_128_92 : xe_code 128 92 = some (.iload 6, []) := by decide +kernel
theorem kc_128_94 : xe_code 128 94 = some (.iload 10, []) := by decide +kernel
theorem kc_128_96 : xe_code 128 96 = some (.if_icmp .le 23, [119]) := by decide +kernel
theorem kc_128_99 : xe_code 128 99 = some (.aload_n 0, []) := by decide +kernel
theorem kc_128_100 : xe_code 128 100 = some (.aload_n 1, []) := by decide +kernel
theorem kc_128_101 : xe_code 128 101 = some (.iload_n 2, []) := by decide +kernel
theorem kc_128_102 : xe_code 128 102 = some (.iload 6, []) := by decide +kernel
theorem kc_128_104 : xe_code 128 104 = some (.iload 10, []) := by decide +kernel
theorem kc_128_106 : xe_code 128 106 = some (.isub, []) := by decide +kernel
theorem kc_128_107 : xe_code 128 107 = some (.iload 9, []) := by decide +kernel
theorem kc_128_109 : xe_code 128 109 = some (.iload 4, []) := by decide +kernel
theorem kc_128_111 : xe_code 128 111 = some (.isub, []) := by decide +kernel
theorem kc_128_112 : xe_code 128 112 = some (.invokevirtual 158, [130, 4, 585, 4]) := by decide +kernel
theorem kc_128_115 : xe_code 128 115 = some (.iload 10, []) := by decide +kernel
theorem kc_128_117 : xe_code 128 117 = some (.istore 6, []) := by decide +kernel
theorem kc_128_119 : xe_code 128 119 = some (.aload_n 1, []) := by decide +kernel
theorem kc_128_120 : xe_code 128 120 = some (.getfield 148, [9, 0, 204]) := by decide +kernel
