theorem kc_61_156 : xe_code 61 156 = some (.getfield 249, [12, 34, 981]) := kg_61_1 (i := 31) rfl
theorem kc_61_159 : xe_code 61 159 = some (.iload_n 1, []) := kg_61_1 (i := 32) rfl
theorem kc_61_160 : xe_code 61 160 = some (.iastore, []) := kg_61_1 (i := 33) rfl
theorem kc_61_161 : xe_code 61 161 = some (.aload_n 0, []) := kg_61_1 (i := 34) rfl
theorem kc_61_162 : xe_code 61 162 = some (.getfield 99, [12, 36, 983]) := kg_61_1 (i := 35) rfl
theorem kc_61_165 : xe_code 61 165 = some (.aload_n 0, []) := kg_61_1 (i := 36) rfl
theorem kc_61_166 : xe_code 61 166 = some (.getfield 249, [12, 34, 981]) := kg_61_1 (i := 37) rfl
theorem kc_61_169 : xe_code 61 169 = some (.iload_n 2, []) := kg_61_1 (i := 38) rfl
theorem kc_61_170 : xe_code 61 170 = some (.iastore, []) := kg_61_1 (i := 39) rfl
theorem kc_61_171 : xe_code 61 171 = some (.aload_n 0, []) := kg_61_1 (i := 40) rfl
theorem kc_61_172 : xe_code 61 172 = some (.getfield 102, [12, 37, 984]) := kg_61_1 (i := 41) rfl
theorem kc_61_175 : xe_code 61 175 = some (.aload_n 0, []) := kg_61_1 (i := 42) rfl
theorem kc_61_176 : xe_code 61 176 = some (.getfield 249, [12, 34, 981]) := kg_61_1 (i := 43) rfl
theorem kc_61_179 : xe_code 61 179 = some (.iload_n 3, []) := kg_61_1 (i := 44) rfl
theorem kc_61_180 : xe_code 61 180 = some (.iastore, []) := kg_61_1 (i := 45) rfl
theorem kc_61_181 : xe_code 61 181 = some (.aload_n 0, []) := kg_61_1 (i := 46) rfl
theorem kc_61_182 : xe_code 61 182 = some (.getfield 105, [12, 38, 985]) := kg_61_1 (i := 47) rfl
theorem kc_61_185 : xe_code 61 185 = some (.aload_n 0, []) := kg_61_2 (i := 0) rfl
theorem kc_61_186 : xe_code 61 186 = some (.getfield 249, [12, 34, 981]) := kg_61_2 (i := 1) rfl
theorem kc_61_189 : xe_code 61 189 = some (.iload 4, []) := kg_61_2 (i := 2) rfl
theorem kc_61_191 : xe_code 61 191 = some (.iastore, []) := kg_61_2 (i := 3) rfl
theorem kc_61_192 : xe_code 61 192 = some (.aload_n 0, []) := kg_61_2 (i := 4) rfl
theorem kc_61_193 : xe_code 61 193 = some (.getfield 108, [12, 39, 986]) := kg_61_2 (i := 5) rfl
theorem kc_61_196 : xe_code 61 196 = some (.aload_n 0, []) := kg_61_2 (i := 6) rfl
theorem kc_61_197 : xe_code 61 197 = some (.getfield 249, [12, 34, 981]) := kg_61_2 (i := 7) rfl
theorem kc_61_200 : xe_code 61 200 = some (.iload 5, []) := kg_61_2 (i := 8) rfl
theorem kc_61_202 : xe_code 61 202 = some (.iastore, []) := kg_61_2 (i := 9) rfl
theorem kc_61_203 : xe_code 61 203 = some (.aload_n 0, []) := kg_61_2 (i := 10) rfl
theorem kc_61_204 : xe_code 61 204 = some (.dup, []) := kg_61_2 (i := 11) rfl
theorem kc_61_205 : xe_code 61 205 = some (.getfield 249, [12, 34, 981]) := kg_61_2 (i := 12) rfl
theorem kc_61_208 : xe_code 61 208 = some (.iconst 1, []) := kg_61_2 (i := 13) rfl
theorem kc_61_209 : xe_code 61 209 = some (.iadd, []) := kg_61_2 (i := 14) rfl
theorem kc_61_210 : xe_code 61 210 = some (.putfield 249, [12, 34, 981]) := kg_61_2 (i := 15) rfl
theorem kc_61_213 : xe_code 61 213 = some (.aload_n 0, []) := kg_61_2 (i := 16) rfl
theorem kc_61_214 : xe_code 61 214 = some (.getfield 249, [12, 34, 981]) := kg_61_2 (i := 17) rfl
theorem kc_61_217 : xe_code 61 217 = some (.iconst 1, []) := kg_61_2 (i := 18) rfl
theorem kc_61_218 : xe_code 61 218 = some (.isub, []) := kg_61_2 (i := 19) rfl
theorem kc_61_219 : xe_code 61 219 = some (.ireturn, []) := kg_61_2 (i := 20) rfl
theorem kc_62_0 : xe_code 62 0 = some (.aload_n 0, []) := kg_62_0 (i := 0) rfl
theorem kc_62_1 : xe_code 62 1 = some (.iconst 0, []) := kg_62_0 (i := 1) rfl
theorem kc_62_2 : xe_code 62 2 = some (.putfield 169, [12, 0, 947]) := kg_62_0 (i := 2) rfl
theorem kc_62_5 : xe_code 62 5 = some (.iload_n 1, []) := kg_62_0 (i := 3) rfl
theorem kc_62_6 : xe_code 62 6 = some (.iconst 0, []) := kg_62_0 (i := 4) rfl
theorem kc_62_7 : xe_code 62 7 = some (.aload_n 0, []) := kg_62_0 (i := 5) rfl
theorem kc_62_8 : xe_code 62 8 = some (.getfield 249, [12, 34, 981]) := kg_62_0 (i := 6) rfl
theorem kc_62_11 : xe_code 62 11 = some (.iconst 1, []) := kg_62_0 (i := 7) rfl
theorem kc_62_12 : xe_code 62 12 = some (.isub, []) := kg_62_0 (i := 8) rfl
theorem kc_62_13 : xe_code 62 13 = some (.invokestatic 173, [11, 3, 1148, 12]) := kg_62_0 (i := 9) rfl
theorem kc_62_16 : xe_code 62 16 = some (.ifCond .ne 9, [25]) := kg_62_0 (i := 10) rfl
theorem kc_62_19 : xe_code 62 19 = some (.aload_n 0, []) := kg_62_0 (i := 11) rfl
theorem kc_62_20 : xe_code 62 20 = some (.iconst (-1), []) := kg_62_0 (i := 12) rfl
theorem kc_62_21 : xe_code 62 21 = some (.invokevirtual 188, [12, 1, 1151, 12]) := kg_62_0 (i := 13) rfl
theorem kc_62_24 : xe_code 62 24 = some (.ireturn, []) := kg_62_0 (i := 14) rfl
theorem kc_62_25 : xe_code 62 25 = some (.iload_n 2, []) := kg_62_0 (i := 15) rfl
theorem kc_62_26 : xe_code 62 26 = some (.iconst 0, []) := kg_62_0 (i := 16) rfl
theorem kc_62_27 : xe_code 62 27 = some (.iconst 2, []) := kg_62_0 (i := 17) rfl
theorem kc_62_28 : xe_code 62 28 = some (.invokestatic 173, [11, 3, 1148, 12]) := kg_62_0 (i := 18) rfl
theorem kc_62_31 : xe_code 62 31 = some (.ifCond .ne 10, [41]) := kg_62_0 (i := 19) rfl
theorem kc_62_34 : xe_code 62 34 = some (.aload_n 0, []) := kg_62_0 (i := 20) rfl
theorem kc_62_35 : xe_code 62 35 = some (.bipush (-2), []) := kg_62_0 (i := 21) rfl
theorem kc_62_37 : xe_code 62 37 = some (.invokevirtual 188, [12, 1, 1151, 12]) := kg_62_0 (i := 22) rfl
theorem kc_62_40 : xe_code 62 40 = some (.ireturn, []) := kg_62_0 (i := 23) rfl
theorem kc_62_41 : xe_code 62 41 = some (.aload_n 0, []) := kg_62_0 (i := 24) rfl
theorem kc_62_42 : xe_code 62 42 = some (.getfield 108, [12, 39, 986]) := kg_62_0 (i := 25) rfl
theorem kc_62_45 : xe_code 62 45 = some (.iload_n 1, []) := kg_62_0 (i := 26) rfl
theorem kc_62_46 : xe_code 62 46 = some (.iaload, []) := kg_62_0 (i := 27) rfl
theorem kc_62_47 : xe_code 62 47 = some (.aload_n 0, []) := kg_62_0 (i := 28) rfl
theorem kc_62_48 : xe_code 62 48 = some (.getfield 213, [12, 1, 948]) := kg_62_0 (i := 29) rfl
theorem kc_62_51 : xe_code 62 51 = some (.if_icmp .le 10, [61]) := kg_62_0 (i := 30) rfl
theorem kc_62_54 : xe_code 62 54 = some (.aload_n 0, []) := kg_62_0 (i := 31) rfl
theorem kc_62_55 : xe_code 62 55 = some (.bipush (-3), []) := kg_62_0 (i := 32) rfl
theorem kc_62_57 : xe_code 62 57 = some (.invokevirtual 188, [12, 1, 1151, 12]) := kg_62_0 (i := 33) rfl
theorem kc_62_60 : xe_code 62 60 = some (.ireturn, []) := kg_62_0 (i := 34) rfl
theorem kc_62_61 : xe_code 62 61 = some (.aload_n 0, []) := kg_62_0 (i := 35) rfl
theorem kc_62_62 : xe_code 62 62 = some (.getfield 105, [12, 38, 985]) := kg_62_0 (i := 36) rfl
theorem kc_62_65 : xe_code 62 65 = some (.iload_n 1, []) := kg_62_0 (i := 37) rfl
theorem kc_62_66 : xe_code 62 66 = some (.iaload, []) := kg_62_0 (i := 38) rfl
theorem kc_62_67 : xe_code 62 67 = some (.istore_n 3, []) := kg_62_0 (i := 39) rfl
theorem kc_62_68 : xe_code 62 68 = some (.iconst 2, []) := kg_62_0 (i := 40) rfl
theorem kc_62_69 : xe_code 62 69 = some (.iload_n 3, []) := kg_62_0 (i := 41) rfl
theorem kc_62_70 : xe_code 62 70 = some (.imul, []) := kg_62_0 (i := 42) rfl
theorem kc_62_71 : xe_code 62 71 = some (.aload_n 0, []) := kg_62_0 (i := 43) rfl
theorem kc_62_72 : xe_code 62 72 = some (.getfield 108, [12, 39, 986]) := kg_62_0 (i := 44) rfl
theorem kc_62_75 : xe_code 62 75 = some (.iload_n 1, []) := kg_62_0 (i := 45) rfl
theorem kc_62_76 : xe_code 62 76 = some (.iaload, []) := kg_62_0 (i := 46) rfl
theorem kc_62_77 : xe_code 62 77 = some (.isub, []) := kg_62_0 (i := 47) rfl
theorem kc_62_78 : xe_code 62 78 = some (.istore 4, []) := kg_62_1 (i := 0) rfl
theorem kc_62_80 : xe_code 62 80 = some (.aload_n 0, []) := kg_62_1 (i := 1) rfl
theorem kc_62_81 : xe_code 62 81 = some (.aload_n 0, []) := kg_62_1 (i := 2) rfl
theorem kc_62_82 : xe_code 62 82 = some (.getfield 96, [12, 35, 982]) := kg_62_1 (i := 3) rfl
theorem kc_62_85 : xe_code 62 85 = some (.iload_n 1, []) := kg_62_1 (i := 4) rfl
theorem kc_62_86 : xe_code 62 86 = some (.iaload, []) := kg_62_1 (i := 5) rfl
theorem kc_62_87 : xe_code 62 87 = some (.iload_n 3, []) := kg_62_1 (i := 6) rfl
theorem kc_62_88 : xe_code 62 88 = some (.aload_n 0, []) := kg_62_1 (i := 7) rfl
theorem kc_62_89 : xe_code 62 89 = some (.getfield 108, [12, 39, 986]) := kg_62_1 (i := 8) rfl
theorem kc_62_92 : xe_code 62 92 = some (.iload_n 1, []) := kg_62_1 (i := 9) rfl
theorem kc_62_93 : xe_code 62 93 = some (.iaload, []) := kg_62_1 (i := 10) rfl
theorem kc_62_94 : xe_code 62 94 = some (.invokevirtual 298, [63, 3, 1353, 12]) := kg_62_1 (i := 11) rfl
theorem kc_62_97 : xe_code 62 97 = some (.istore 5, []) := kg_62_1 (i := 12) rfl
theorem kc_62_99 : xe_code 62 99 = some (.aload_n 0, []) := kg_62_1 (i := 13) rfl
theorem kc_62_100 : xe_code 62 100 = some (.aload_n 0, []) := kg_62_1 (i := 14) rfl
theorem kc_62_101 : xe_code 62 101 = some (.getfield 96, [12, 35, 982]) := kg_62_1 (i := 15) rfl
theorem kc_62_104 : xe_code 62 104 = some (.iload_n 1, []) := kg_62_1 (i := 16) rfl
theorem kc_62_105 : xe_code 62 105 = some (.iaload, []) := kg_62_1 (i := 17) rfl
theorem kc_62_106 : xe_code 62 106 = some (.iload 4, []) := kg_62_1 (i := 18) rfl
theorem kc_62_108 : xe_code 62 108 = some (.ifCond .ge 7, [115]) := kg_62_1 (i := 19) rfl
theorem kc_62_111 : xe_code 62 111 = some (.iconst 0, []) := kg_62_1 (i := 20) rfl
theorem kc_62_112 : xe_code 62 112 = some (.goto 5, [117]) := kg_62_1 (i := 21) rfl
theorem kc_62_115 : xe_code 62 115 = some (.iload 4, []) := kg_62_1 (i := 22) rfl
theorem kc_62_117 : xe_code 62 117 = some (.iload_n 3, []) := kg_62_1 (i := 23) rfl
theorem kc_62_118 : xe_code 62 118 = some (.invokevirtual 298, [63, 3, 1353, 12]) := kg_62_1 (i := 24) rfl
theorem kc_62_121 : xe_code 62 121 = some (.istore 6, []) := kg_62_1 (i := 25) rfl
theorem kc_62_123 : xe_code 62 123 = some (.iload_n 2, []) := kg_62_1 (i := 26) rfl
theorem kc_62_124 : xe_code 62 124 = some (.ifCond .ne 8, [132]) := kg_62_1 (i := 27) rfl
theorem kc_62_127 : xe_code 62 127 = some (.iload 5, []) := kg_62_1 (i := 28) rfl
theorem kc_62_129 : xe_code 62 129 = some (.goto 25, [154]) := kg_62_1 (i := 29) rfl
theorem kc_62_132 : xe_code 62 132 = some (.iload_n 2, []) := kg_62_1 (i := 30) rfl
theorem kc_62_133 : xe_code 62 133 = some (.iconst 1, []) := kg_62_1 (i := 31) rfl
theorem kc_62_134 : xe_code 62 134 = some (.if_icmp .ne 8, [142]) := kg_62_1 (i := 32) rfl
theorem kc_62_137 : xe_code 62 137 = some (.iload 6, []) := kg_62_1 (i := 33) rfl
theorem kc_62_139 : xe_code 62 139 = some (.goto 15, [154]) := kg_62_1 (i := 34) rfl
theorem kc_62_142 : xe_code 62 142 = some (.iload 5, []) := kg_62_1 (i := 35) rfl
theorem kc_62_144 : xe_code 62 144 = some (.iload 6, []) := kg_62_1 (i := 36) rfl
theorem kc_62_146 : xe_code 62 146 = some (.if_icmp .ge 7, [153]) := kg_62_1 (i := 37) rfl
theorem kc_62_149 : xe_code 62 149 = some (.iconst 1, []) := kg_62_1 (i := 38) rfl
theorem kc_62_150 : xe_code 62 150 = some (.goto 4, [154]) := kg_62_1 (i := 39) rfl
theorem kc_62_153 : xe_code 62 153 = some (.iconst 0, []) := kg_62_1 (i := 40) rfl
theorem kc_62_154 : xe_code 62 154 = some (.ireturn, []) := kg_62_1 (i := 41) rfl
theorem kc_63_0 : xe_code 63 0 = some (.lconst 0, []) := kg_63_0 (i := 0) rfl
theorem kc_63_1 : xe_code 63 1 = some (.lstore 4, []) := kg_63_0 (i := 1) rfl
theorem kc_63_3 : xe_code 63 3 = some (.iconst 0, []) := kg_63_0 (i := 2) rfl
theorem kc_63_4 : xe_code 63 4 = some (.istore 6, []) := kg_63_0 (i := 3) rfl
theorem kc_63_6 : xe_code 63 6 = some (.iload_n 2, []) := kg_63_0 (i := 4) rfl
theorem kc_63_7 : xe_code 63 7 = some (.istore 7, []) := kg_63_0 (i := 5) rfl
theorem kc_63_9 : xe_code 63 9 = some (.iload 7, []) := kg_63_0 (i := 6) rfl
theorem kc_63_11 : xe_code 63 11 = some (.iload_n 3, []) := kg_63_0 (i := 7) rfl
theorem kc_63_12 : xe_code 63 12 = some (.if_icmp .ge 58, [70]) := kg_63_0 (i := 8) rfl
theorem kc_63_15 : xe_code 63 15 = some (.iconst 0, []) := kg_63_0 (i := 9) rfl
theorem kc_63_16 : xe_code 63 16 = some (.istore 8, []) := kg_63_0 (i := 10) rfl
theorem kc_63_18 : xe_code 63 18 = some (.iload 8, []) := kg_63_0 (i := 11) rfl
theorem kc_63_20 : xe_code 63 20 = some (.bipush 12, []) := kg_63_0 (i := 12) rfl
theorem kc_63_22 : xe_code 63 22 = some (.if_icmp .ge 42, [64]) := kg_63_0 (i := 13) rfl
theorem kc_63_25 : xe_code 63 25 = some (.aload_n 0, []) := kg_63_0 (i := 14) rfl
theorem kc_63_26 : xe_code 63 26 = some (.getfield 37, [12, 11, 958]) := kg_63_0 (i := 15) rfl
theorem kc_63_29 : xe_code 63 29 = some (.iload 8, []) := kg_63_0 (i := 16) rfl
theorem kc_63_31 : xe_code 63 31 = some (.iaload, []) := kg_63_0 (i := 17) rfl
theorem kc_63_32 : xe_code 63 32 = some (.iload_n 1, []) := kg_63_0 (i := 18) rfl
theorem kc_63_33 : xe_code 63 33 = some (.if_icmp .ne 25, [58]) := kg_63_0 (i := 19) rfl
theorem kc_63_36 : xe_code 63 36 = some (.lload 4, []) := kg_63_0 (i := 20) rfl
theorem kc_63_38 : xe_code 63 38 = some (.aload_n 0, []) := kg_63_0 (i := 21) rfl
theorem kc_63_39 : xe_code 63 39 = some (.getfield 57, [12, 17, 964]) := kg_63_0 (i := 22) rfl
theorem kc_63_42 : xe_code 63 42 = some (.bipush 12, []) := kg_63_0 (i := 23) rfl
theorem kc_63_44 : xe_code 63 44 = some (.iload 7, []) := kg_63_0 (i := 24) rfl
theorem kc_63_46 : xe_code 63 46 = some (.imul, []) := kg_63_0 (i := 25) rfl
theorem kc_63_47 : xe_code 63 47 = some (.iload 8, []) := kg_63_0 (i := 26) rfl
theorem kc_63_49 : xe_code 63 49 = some (.iadd, []) := kg_63_0 (i := 27) rfl
theorem kc_63_50 : xe_code 63 50 = some (.iaload, []) := kg_63_0 (i := 28) rfl
theorem kc_63_51 : xe_code 63 51 = some (.i2l, []) := kg_63_0 (i := 29) rfl
theorem kc_63_52 : xe_code 63 52 = some (.ladd, []) := kg_63_0 (i := 30) rfl
theorem kc_63_53 : xe_code 63 53 = some (.lstore 4, []) := kg_63_0 (i := 31) rfl
theorem kc_63_55 : xe_code 63 55 = some (.iinc 6 1, []) := kg_63_0 (i := 32) rfl
theorem kc_63_58 : xe_code 63 58 = some (.iinc 8 1, []) := kg_63_0 (i := 33) rfl
theorem kc_63_61 : xe_code 63 61 = some (.goto (-43), [18]) := kg_63_0 (i := 34) rfl
theorem kc_63_64 : xe_code 63 64 = some (.iinc 7 1, []) := kg_63_0 (i := 35) rfl
theorem kc_63_67 : xe_code 63 67 = some (.goto (-58), [9]) := kg_63_0 (i := 36) rfl
theorem kc_63_70 : xe_code 63 70 = some (.iload 6, []) := kg_63_0 (i := 37) rfl
theorem kc_63_72 : xe_code 63 72 = some (.ifCond .ne 7, [79]) := kg_63_0 (i := 38) rfl
theorem kc_63_75 : xe_code 63 75 = some (.iconst 0, []) := kg_63_0 (i := 39) rfl
theorem kc_63_76 : xe_code 63 76 = some (.goto 10, [86]) := kg_63_0 (i := 40) rfl
theorem kc_63_79 : xe_code 63 79 = some (.lload 4, []) := kg_63_0 (i := 41) rfl
theorem kc_63_81 : xe_code 63 81 = some (.iload 6, []) := kg_63_0 (i := 42) rfl
theorem kc_63_83 : xe_code 63 83 = some (.i2l, []) := kg_63_0 (i := 43) rfl
theorem kc_63_84 : xe_code 63 84 = some (.ldiv, []) := kg_63_0 (i := 44) rfl
theorem kc_63_85 : xe_code 63 85 = some (.l2i, []) := kg_63_0 (i := 45) rfl
theorem kc_63_86 : xe_code 63 86 = some (.ireturn, []) := kg_63_0 (i := 46) rfl
theorem kc_64_0 : xe_code 64 0 = some (.aload_n 0, []) := kg_64_0 (i := 0) rfl
theorem kc_64_1 : xe_code 64 1 = some (.iconst 0, []) := kg_64_0 (i := 1) rfl
theorem kc_64_2 : xe_code 64 2 = some (.putfield 169, [12, 0, 947]) := kg_64_0 (i := 2) rfl
theorem kc_64_5 : xe_code 64 5 = some (.iload_n 1, []) := kg_64_0 (i := 3) rfl
theorem kc_64_6 : xe_code 64 6 = some (.iconst 0, []) := kg_64_0 (i := 4) rfl
theorem kc_64_7 : xe_code 64 7 = some (.bipush 23, []) := kg_64_0 (i := 5) rfl
theorem kc_64_9 : xe_code 64 9 = some (.invokestatic 173, [11, 3, 1148, 12]) := kg_64_0 (i := 6) rfl
theorem kc_64_12 : xe_code 64 12 = some (.ifCond .eq 21, [33]) := kg_64_0 (i := 7) rfl
theorem kc_64_15 : xe_code 64 15 = some (.iload_n 2, []) := kg_64_0 (i := 8) rfl
theorem kc_64_16 : xe_code 64 16 = some (.iconst 0, []) := kg_64_0 (i := 9) rfl
theorem kc_64_17 : xe_code 64 17 = some (.iconst 3, []) := kg_64_0 (i := 10) rfl
theorem kc_64_18 : xe_code 64 18 = some (.invokestatic 173, [11, 3, 1148, 12]) := kg_64_0 (i := 11) rfl
theorem kc_64_21 : xe_code 64 21 = some (.ifCond .eq 12, [33]) := kg_64_0 (i := 12) rfl
theorem kc_64_24 : xe_code 64 24 = some (.iload_n 3, []) := kg_64_0 (i := 13) rfl
theorem kc_64_25 : xe_code 64 25 = some (.iconst 0, []) := kg_64_0 (i := 14) rfl
theorem kc_64_26 : xe_code 64 26 = some (.iconst 5, []) := kg_64_0 (i := 15) rfl
theorem kc_64_27 : xe_code 64 27 = some (.invokestatic 173, [11, 3, 1148, 12]) := kg_64_0 (i := 16) rfl
theorem kc_64_30 : xe_code 64 30 = some (.ifCond .ne 9, [39]) := kg_64_0 (i := 17) rfl
theorem kc_64_33 : xe_code 64 33 = some (.aload_n 0, []) := kg_64_0 (i := 18) rfl
theorem kc_64_34 : xe_code 64 34 = some (.iconst (-1), []) := kg_64_0 (i := 19) rfl
theorem kc_64_35 : xe_code 64 35 = some (.invokevirtual 188, [12, 1, 1151, 12]) := kg_64_0 (i := 20) rfl
theorem kc_64_38 : xe_code 64 38 = some (.ireturn, []) := kg_64_0 (i := 21) rfl
theorem kc_64_39 : xe_code 64 39 = some (.iload 4, []) := kg_64_0 (i := 22) rfl
theorem kc_64_41 : xe_code 64 41 = some (.iconst 0, []) := kg_64_0 (i := 23) rfl
theorem kc_64_42 : xe_code 64 42 = some (.iconst 2, []) := kg_64_0 (i := 24) rfl
theorem kc_64_43 : xe_code 64 43 = some (.invokestatic 173, [11, 3, 1148, 12]) := kg_64_0 (i := 25) rfl
theorem kc_64_46 : xe_code 64 46 = some (.ifCond .ne 10, [56]) := kg_64_0 (i := 26) rfl
theorem kc_64_49 : xe_code 64 49 = some (.aload_n 0, []) := kg_64_0 (i := 27) rfl
theorem kc_64_50 : xe_code 64 50 = some (.bipush (-2), []) := kg_64_0 (i := 28) rfl
theorem kc_64_52 : xe_code 64 52 = some (.invokevirtual 188, [12, 1, 1151, 12]) := kg_64_0 (i := 29) rfl
theorem kc_64_55 : xe_code 64 55 = some (.ireturn, []) := kg_64_0 (i := 30) rfl
theorem kc_64_56 : xe_code 64 56 = some (.aload_n 0, []) := kg_64_0 (i := 31) rfl
theorem kc_64_57 : xe_code 64 57 = some (.getfield 142, [12, 52, 999]) := kg_64_0 (i := 32) rfl
theorem kc_64_60 : xe_code 64 60 = some (.iload_n 1, []) := kg_64_0 (i := 33) rfl
theorem kc_64_61 : xe_code 64 61 = some (.iaload, []) := kg_64_0 (i := 34) rfl
theorem kc_64_62 : xe_code 64 62 = some (.istore 5, []) := kg_64_0 (i := 35) rfl
theorem kc_64_64 : xe_code 64 64 = some (.aload_n 0, []) := kg_64_0 (i := 36) rfl
theorem kc_64_65 : xe_code 64 65 = some (.getfield 136, [12, 50, 997]) := kg_64_0 (i := 37) rfl
theorem kc_64_68 : xe_code 64 68 = some (.iload_n 1, []) := kg_64_0 (i := 38) rfl
theorem kc_64_69 : xe_code 64 69 = some (.iload_n 2, []) := kg_64_0 (i := 39) rfl
theorem kc_64_70 : xe_code 64 70 = some (.iastore, []) := kg_64_0 (i := 40) rfl
theorem kc_64_71 : xe_code 64 71 = some (.aload_n 0, []) := kg_64_0 (i := 41) rfl
theorem kc_64_72 : xe_code 64 72 = some (.getfield 139, [12, 51, 998]) := kg_64_0 (i := 42) rfl
theorem kc_64_75 : xe_code 64 75 = some (.iload_n 1, []) := kg_64_0 (i := 43) rfl
theorem kc_64_76 : xe_code 64 76 = some (.iload_n 3, []) := kg_64_0 (i := 44) rfl
theorem kc_64_77 : xe_code 64 77 = some (.iastore, []) := kg_64_0 (i := 45) rfl
theorem kc_64_78 : xe_code 64 78 = some (.aload_n 0, []) := kg_64_0 (i := 46) rfl
theorem kc_64_79 : xe_code 64 79 = some (.getfield 142, [12, 52, 999]) := kg_64_0 (i := 47) rfl
theorem kc_64_82 : xe_code 64 82 = some (.iload_n 1, []) := kg_64_1 (i := 0) rfl
theorem kc_64_83 : xe_code 64 83 = some (.iload 4, []) := kg_64_1 (i := 1) rfl
theorem kc_64_85 : xe_code 64 85 = some (.iastore, []) := kg_64_1 (i := 2) rfl
theorem kc_64_86 : xe_code 64 86 = some (.iload 5, []) := kg_64_1 (i := 3) rfl
theorem kc_64_88 : xe_code 64 88 = some (.ireturn, []) := kg_64_1 (i := 4) rfl
theorem kc_65_0 : xe_code 65 0 = some (.aload_n 0, []) := kg_65_0 (i := 0) rfl
theorem kc_65_1 : xe_code 65 1 = some (.iconst 0, []) := kg_65_0 (i := 1) rfl
theorem kc_65_2 : xe_code 65 2 = some (.putfield 169, [12, 0, 947]) := kg_65_0 (i := 2) rfl
theorem kc_65_5 : xe_code 65 5 = some (.aload_n 0, []) := kg_65_0 (i := 3) rfl
theorem kc_65_6 : xe_code 65 6 = some (.invokevirtual 308, [66, 0, 1365, 12]) := kg_65_0 (i := 4) rfl
theorem kc_65_9 : xe_code 65 9 = some (.ireturn, []) := kg_65_0 (i := 5) rfl
theorem kc_66_0 : xe_code 66 0 = some (.iconst 0, []) := kg_66_0 (i := 0) rfl
theorem kc_66_1 : xe_code 66 1 = some (.istore_n 1, []) := kg_66_0 (i := 1) rfl
theorem kc_66_2 : xe_code 66 2 = some (.iconst 0, []) := kg_66_0 (i := 2) rfl
theorem kc_66_3 : xe_code 66 3 = some (.istore_n 2, []) := kg_66_0 (i := 3) rfl
theorem kc_66_4 : xe_code 66 4 = some (.iload_n 2, []) := kg_66_0 (i := 4) rfl
theorem kc_66_5 : xe_code 66 5 = some (.bipush 24, []) := kg_66_0 (i := 5) rfl
theorem kc_66_7 : xe_code 66 7 = some (.if_icmp .ge 59, [66]) := kg_66_0 (i := 6) rfl
theorem kc_66_10 : xe_code 66 10 = some (.iconst 0, []) := kg_66_0 (i := 7) rfl
theorem kc_66_11 : xe_code 66 11 = some (.istore_n 3, []) := kg_66_0 (i := 8) rfl
theorem kc_66_12 : xe_code 66 12 = some (.iload_n 3, []) := kg_66_0 (i := 9) rfl
theorem kc_66_13 : xe_code 66 13 = some (.iload_n 2, []) := kg_66_0 (i := 10) rfl
theorem kc_66_14 : xe_code 66 14 = some (.if_icmp .ge 46, [60]) := kg_66_0 (i := 11) rfl
theorem kc_66_17 : xe_code 66 17 = some (.iload_n 1, []) := kg_66_0 (i := 12) rfl
theorem kc_66_18 : xe_code 66 18 = some (.aload_n 0, []) := kg_66_0 (i := 13) rfl
theorem kc_66_19 : xe_code 66 19 = some (.getfield 142, [12, 52, 999]) := kg_66_0 (i := 14) rfl
theorem kc_66_22 : xe_code 66 22 = some (.iload_n 2, []) := kg_66_0 (i := 15) rfl
theorem kc_66_23 : xe_code 66 23 = some (.iaload, []) := kg_66_0 (i := 16) rfl
theorem kc_66_24 : xe_code 66 24 = some (.iconst 1, []) := kg_66_0 (i := 17) rfl
theorem kc_66_25 : xe_code 66 25 = some (.if_icmp .ne 26, [51]) := kg_66_0 (i := 18) rfl
theorem kc_66_28 : xe_code 66 28 = some (.aload_n 0, []) := kg_66_0 (i := 19) rfl
theorem kc_66_29 : xe_code 66 29 = some (.getfield 142, [12, 52, 999]) := kg_66_0 (i := 20) rfl
theorem kc_66_32 : xe_code 66 32 = some (.iload_n 3, []) := kg_66_0 (i := 21) rfl
theorem kc_66_33 : xe_code 66 33 = some (.iaload, []) := kg_66_0 (i := 22) rfl
theorem kc_66_34 : xe_code 66 34 = some (.iconst 1, []) := kg_66_0 (i := 23) rfl
theorem kc_66_35 : xe_code 66 35 = some (.if_icmp .ne 16, [51]) := kg_66_0 (i := 24) rfl
theorem kc_66_38 : xe_code 66 38 = some (.aload_n 0, []) := kg_66_0 (i := 25) rfl
theorem kc_66_39 : xe_code 66 39 = some (.iload_n 2, []) := kg_66_0 (i := 26) rfl
theorem kc_66_40 : xe_code 66 40 = some (.iload_n 3, []) := kg_66_0 (i := 27) rfl
theorem kc_66_41 : xe_code 66 41 = some (.invokevirtual 305, [67, 2, 1369, 12]) := kg_66_0 (i := 28) rfl
theorem kc_66_44 : xe_code 66 44 = some (.ifCond .eq 7, [51]) := kg_66_0 (i := 29) rfl
theorem kc_66_47 : xe_code 66 47 = some (.iconst 1, []) := kg_66_0 (i := 30) rfl
theorem kc_66_48 : xe_code 66 48 = some (.goto 4, [52]) := kg_66_0 (i := 31) rfl
theorem kc_66_51 : xe_code 66 51 = some (.iconst 0, []) := kg_66_0 (i := 32) rfl
theorem kc_66_52 : xe_code 66 52 = some (.iadd, []) := kg_66_0 (i := 33) rfl
theorem kc_66_53 : xe_code 66 53 = some (.istore_n 1, []) := kg_66_0 (i := 34) rfl
theorem kc_66_54 : xe_code 66 54 = some (.iinc 3 1, []) := kg_66_0 (i := 35) rfl
theorem kc_66_57 : xe_code 66 57 = some (.goto (-45), [12]) := kg_66_0 (i := 36) rfl
theorem kc_66_60 : xe_code 66 60 = some (.iinc 2 1, []) := kg_66_0 (i := 37) rfl
theorem kc_66_63 : xe_code 66 63 = some (.goto (-59), [4]) := kg_66_0 (i := 38) rfl
theorem kc_66_66 : xe_code 66 66 = some (.iload_n 1, []) := kg_66_0 (i := 39) rfl
theorem kc_66_67 : xe_code 66 67 = some (.ireturn, []) := kg_66_0 (i := 40) rfl
theorem kc_67_0 : xe_code 67 0 = some (.aload_n 0, []) := kg_67_0 (i := 0) rfl
theorem kc_67_1 : xe_code 67 1 = some (.getfield 136, [12, 50, 997]) := kg_67_0 (i := 1) rfl
theorem kc_67_4 : xe_code 67 4 = some (.iload_n 1, []) := kg_67_0 (i := 2) rfl
theorem kc_67_5 : xe_code 67 5 = some (.iaload, []) := kg_67_0 (i := 3) rfl
theorem kc_67_6 : xe_code 67 6 = some (.aload_n 0, []) := kg_67_0 (i := 4) rfl
theorem kc_67_7 : xe_code 67 7 = some (.getfield 136, [12, 50, 997]) := kg_67_0 (i := 5) rfl
theorem kc_67_10 : xe_code 67 10 = some (.iload_n 2, []) := kg_67_0 (i := 6) rfl
theorem kc_67_11 : xe_code 67 11 = some (.iaload, []) := kg_67_0 (i := 7) rfl
theorem kc_67_12 : xe_code 67 12 = some (.isub, []) := kg_67_0 (i := 8) rfl
theorem kc_67_13 : xe_code 67 13 = some (.istore_n 3, []) := kg_67_0 (i := 9) rfl
theorem kc_67_14 : xe_code 67 14 = some (.aload_n 0, []) := kg_67_0 (i := 10) rfl
theorem kc_67_15 : xe_code 67 15 = some (.getfield 139, [12, 51, 998]) := kg_67_0 (i := 11) rfl
theorem kc_67_18 : xe_code 67 18 = some (.iload_n 1, []) := kg_67_0 (i := 12) rfl
theorem kc_67_19 : xe_code 67 19 = some (.iaload, []) := kg_67_0 (i := 13) rfl
theorem kc_67_20 : xe_code 67 20 = some (.aload_n 0, []) := kg_67_0 (i := 14) rfl
theorem kc_67_21 : xe_code 67 21 = some (.getfield 139, [12, 51, 998]) := kg_67_0 (i := 15) rfl
theorem kc_67_24 : xe_code 67 24 = some (.iload_n 2, []) := kg_67_0 (i := 16) rfl
theorem kc_67_25 : xe_code 67 25 = some (.iaload, []) := kg_67_0 (i := 17) rfl
theorem kc_67_26 : xe_code 67 26 = some (.isub, []) := kg_67_0 (i := 18) rfl
theorem kc_67_27 : xe_code 67 27 = some (.istore 4, []) := kg_67_0 (i := 19) rfl
theorem kc_67_29 : xe_code 67 29 = some (.iload_n 3, []) := kg_67_0 (i := 20) rfl
theorem kc_67_30 : xe_code 67 30 = some (.ifCond .ne 15, [45]) := kg_67_0 (i := 21) rfl
theorem kc_67_33 : xe_code 67 33 = some (.iload 4, []) := kg_67_0 (i := 22) rfl
theorem kc_67_35 : xe_code 67 35 = some (.iconst 1, []) := kg_67_0 (i := 23) rfl
theorem kc_67_36 : xe_code 67 36 = some (.if_icmp .eq 24, [60]) := kg_67_0 (i := 24) rfl
theorem kc_67_39 : xe_code 67 39 = some (.iload 4, []) := kg_67_0 (i := 25) rfl
theorem kc_67_41 : xe_code 67 41 = some (.iconst (-1), []) := kg_67_0 (i := 26) rfl
theorem kc_67_42 : xe_code 67 42 = some (.if_icmp .eq 18, [60]) := kg_67_0 (i := 27) rfl
theorem kc_67_45 : xe_code 67 45 = some (.iload 4, []) := kg_67_0 (i := 28) rfl
theorem kc_67_47 : xe_code 67 47 = some (.ifCond .ne 17, [64]) := kg_67_0 (i := 29) rfl
theorem kc_67_50 : xe_code 67 50 = some (.iload_n 3, []) := kg_67_0 (i := 30) rfl
theorem kc_67_51 : xe_code 67 51 = some (.iconst 1, []) := kg_67_0 (i := 31) rfl
theorem kc_67_52 : xe_code 67 52 = some (.if_icmp .eq 8, [60]) := kg_67_0 (i := 32) rfl
theorem kc_67_55 : xe_code 67 55 = some (.iload_n 3, []) := kg_67_0 (i := 33) rfl
theorem kc_67_56 : xe_code 67 56 = some (.iconst (-1), []) := kg_67_0 (i := 34) rfl
theorem kc_67_57 : xe_code 67 57 = some (.if_icmp .ne 7, [64]) := kg_67_0 (i := 35) rfl
theorem kc_67_60 : xe_code 67 60 = some (.iconst 1, []) := kg_67_0 (i := 36) rfl
theorem kc_67_61 : xe_code 67 61 = some (.goto 4, [65]) := kg_67_0 (i := 37) rfl
theorem kc_67_64 : xe_code 67 64 = some (.iconst 0, []) := kg_67_0 (i := 38) rfl
theorem kc_67_65 : xe_code 67 65 = some (.ireturn, []) := kg_67_0 (i := 39) rfl
theorem kc_68_0 : xe_code 68 0 = some (.aload_n 0, []) := kg_68_0 (i := 0) rfl
theorem kc_68_1 : xe_code 68 1 = some (.iconst 0, []) := kg_68_0 (i := 1) rfl
theorem kc_68_2 : xe_code 68 2 = some (.putfield 169, [12, 0, 947]) := kg_68_0 (i := 2) rfl
theorem kc_68_5 : xe_code 68 5 = some (.iload_n 1, []) := kg_68_0 (i := 3) rfl
theorem kc_68_6 : xe_code 68 6 = some (.iconst 0, []) := kg_68_0 (i := 4) rfl
theorem kc_68_7 : xe_code 68 7 = some (.iconst 1, []) := kg_68_0 (i := 5) rfl
theorem kc_68_8 : xe_code 68 8 = some (.invokestatic 173, [11, 3, 1148, 12]) := kg_68_0 (i := 6) rfl
theorem kc_68_11 : xe_code 68 11 = some (.ifCond .ne 10, [21]) := kg_68_0 (i := 7) rfl
theorem kc_68_14 : xe_code 68 14 = some (.aload_n 0, []) := kg_68_0 (i := 8) rfl
theorem kc_68_15 : xe_code 68 15 = some (.bipush (-2), []) := kg_68_0 (i := 9) rfl
theorem kc_68_17 : xe_code 68 17 = some (.invokevirtual 188, [12, 1, 1151, 12]) := kg_68_0 (i := 10) rfl
theorem kc_68_20 : xe_code 68 20 = some (.ireturn, []) := kg_68_0 (i := 11) rfl
theorem kc_68_21 : xe_code 68 21 = some (.aload_n 0, []) := kg_68_0 (i := 12) rfl
theorem kc_68_22 : xe_code 68 22 = some (.invokevirtual 311, [69, 0, 1377, 12]) := kg_68_0 (i := 13) rfl
theorem kc_68_25 : xe_code 68 25 = some (.aload_n 0, []) := kg_68_0 (i := 14) rfl
theorem kc_68_26 : xe_code 68 26 = some (.getfield 302, [12, 54, 1001]) := kg_68_0 (i := 15) rfl
theorem kc_68_29 : xe_code 68 29 = some (.bipush 16, []) := kg_68_0 (i := 16) rfl
theorem kc_68_31 : xe_code 68 31 = some (.if_icmp .le 10, [41]) := kg_68_0 (i := 17) rfl
theorem kc_68_34 : xe_code 68 34 = some (.aload_n 0, []) := kg_68_0 (i := 18) rfl
theorem kc_68_35 : xe_code 68 35 = some (.bipush (-6), []) := kg_68_0 (i := 19) rfl
theorem kc_68_37 : xe_code 68 37 = some (.invokevirtual 188, [12, 1, 1151, 12]) := kg_68_0 (i := 20) rfl
theorem kc_68_40 : xe_code 68 40 = some (.ireturn, []) := kg_68_0 (i := 21) rfl
theorem kc_68_41 : xe_code 68 41 = some (.iconst 0, []) := kg_68_0 (i := 22) rfl
theorem kc_68_42 : xe_code 68 42 = some (.istore_n 2, []) := kg_68_0 (i := 23) rfl
theorem kc_68_43 : xe_code 68 43 = some (.iconst 0, []) := kg_68_0 (i := 24) rfl
theorem kc_68_44 : xe_code 68 44 = some (.istore_n 3, []) := kg_68_0 (i := 25) rfl
theorem kc_68_45 : xe_code 68 45 = some (.iload_n 3, []) := kg_68_0 (i := 26) rfl
theorem kc_68_46 : xe_code 68 46 = some (.aload_n 0, []) := kg_68_0 (i := 27) rfl
theorem kc_68_47 : xe_code 68 47 = some (.getfield 302, [12, 54, 1001]) := kg_68_0 (i := 28) rfl
theorem kc_68_50 : xe_code 68 50 = some (.if_icmp .ge 82, [132]) := kg_68_0 (i := 29) rfl
theorem kc_68_53 : xe_code 68 53 = some (.iload_n 2, []) := kg_68_0 (i := 30) rfl
theorem kc_68_54 : xe_code 68 54 = some (.aload_n 0, []) := kg_68_0 (i := 31) rfl
theorem kc_68_55 : xe_code 68 55 = some (.getfield 142, [12, 52, 999]) := kg_68_0 (i := 32) rfl
theorem kc_68_58 : xe_code 68 58 = some (.aload_n 0, []) := kg_68_0 (i := 33) rfl
theorem kc_68_59 : xe_code 68 59 = some (.getfield 145, [12, 53, 1000]) := kg_68_0 (i := 34) rfl
theorem kc_68_62 : xe_code 68 62 = some (.iload_n 3, []) := kg_68_0 (i := 35) rfl
theorem kc_68_63 : xe_code 68 63 = some (.iaload, []) := kg_68_0 (i := 36) rfl
theorem kc_68_64 : xe_code 68 64 = some (.iaload, []) := kg_68_0 (i := 37) rfl
theorem kc_68_65 : xe_code 68 65 = some (.iadd, []) := kg_68_0 (i := 38) rfl
theorem kc_68_66 : xe_code 68 66 = some (.istore_n 2, []) := kg_68_0 (i := 39) rfl
theorem kc_68_67 : xe_code 68 67 = some (.aload_n 0, []) := kg_68_0 (i := 40) rfl
theorem kc_68_68 : xe_code 68 68 = some (.getfield 148, [12, 55, 1002]) := kg_68_0 (i := 41) rfl
theorem kc_68_71 : xe_code 68 71 = some (.iload_n 3, []) := kg_68_0 (i := 42) rfl
theorem kc_68_72 : xe_code 68 72 = some (.iconst 0, []) := kg_68_0 (i := 43) rfl
theorem kc_68_73 : xe_code 68 73 = some (.iastore, []) := kg_68_0 (i := 44) rfl
theorem kc_68_74 : xe_code 68 74 = some (.iconst 0, []) := kg_68_0 (i := 45) rfl
theorem kc_68_75 : xe_code 68 75 = some (.istore 4, []) := kg_68_0 (i := 46) rfl
theorem kc_68_77 : xe_code 68 77 = some (.iload 4, []) := kg_68_0 (i := 47) rfl
theorem kc_68_79 : xe_code 68 79 = some (.iload_n 3, []) := kg_68_1 (i := 0) rfl
theorem kc_68_80 : xe_code 68 80 = some (.if_icmp .ge 46, [126]) := kg_68_1 (i := 1) rfl
theorem kc_68_83 : xe_code 68 83 = some (.aload_n 0, []) := kg_68_1 (i := 2) rfl
theorem kc_68_84 : xe_code 68 84 = some (.getfield 148, [12, 55, 1002]) := kg_68_1 (i := 3) rfl
theorem kc_68_87 : xe_code 68 87 = some (.iload_n 3, []) := kg_68_1 (i := 4) rfl
theorem kc_68_88 : xe_code 68 88 = some (.dup2, []) := kg_68_1 (i := 5) rfl
theorem kc_68_89 : xe_code 68 89 = some (.iaload, []) := kg_68_1 (i := 6) rfl
theorem kc_68_90 : xe_code 68 90 = some (.aload_n 0, []) := kg_68_1 (i := 7) rfl
theorem kc_68_91 : xe_code 68 91 = some (.aload_n 0, []) := kg_68_1 (i := 8) rfl
theorem kc_68_92 : xe_code 68 92 = some (.getfield 145, [12, 53, 1000]) := kg_68_1 (i := 9) rfl
theorem kc_68_95 : xe_code 68 95 = some (.iload_n 3, []) := kg_68_1 (i := 10) rfl
theorem kc_68_96 : xe_code 68 96 = some (.iaload, []) := kg_68_1 (i := 11) rfl
theorem kc_68_97 : xe_code 68 97 = some (.aload_n 0, []) := kg_68_1 (i := 12) rfl
theorem kc_68_98 : xe_code 68 98 = some (.getfield 145, [12, 53, 1000]) := kg_68_1 (i := 13) rfl
theorem kc_68_101 : xe_code 68 101 = some (.iload 4, []) := kg_68_1 (i := 14) rfl
theorem kc_68_103 : xe_code 68 103 = some (.iaload, []) := kg_68_1 (i := 15) rfl
theorem kc_68_104 : xe_code 68 104 = some (.invokevirtual 305, [67, 2, 1369, 12]) := kg_68_1 (i := 16) rfl
theorem kc_68_107 : xe_code 68 107 = some (.ifCond .eq 10, [117]) := kg_68_1 (i := 17) rfl
theorem kc_68_110 : xe_code 68 110 = some (.iconst 1, []) := kg_68_1 (i := 18) rfl
theorem kc_68_111 : xe_code 68 111 = some (.iload 4, []) := kg_68_1 (i := 19) rfl
theorem kc_68_113 : xe_code 68 113 = some (.ishl, []) := kg_68_1 (i := 20) rfl
theorem kc_68_114 : xe_code 68 114 = some (.goto 4, [118]) := kg_68_1 (i := 21) rfl
theorem kc_68_117 : xe_code 68 117 = some (.iconst 0, []) := kg_68_1 (i := 22) rfl
theorem kc_68_118 : xe_code 68 118 = some (.ior, []) := kg_68_1 (i := 23) rfl
theorem kc_68_119 : xe_code 68 119 = some (.iastore, []) := kg_68_1 (i := 24) rfl
theorem kc_68_120 : xe_code 68 120 = some (.iinc 4 1, []) := kg_68_1 (i := 25) rfl
theorem kc_68_123 : xe_code 68 123 = some (.goto (-46), [77]) := kg_68_1 (i := 26) rfl
theorem kc_68_126 : xe_code 68 126 = some (.iinc 3 1, []) := kg_68_1 (i := 27) rfl
theorem kc_68_129 : xe_code 68 129 = some (.goto (-84), [45]) := kg_68_1 (i := 28) rfl
theorem kc_68_132 : xe_code 68 132 = some (.aload_n 0, []) := kg_68_1 (i := 29) rfl
theorem kc_68_133 : xe_code 68 133 = some (.invokevirtual 308, [66, 0, 1365, 12]) := kg_68_1 (i := 30) rfl
theorem kc_68_136 : xe_code 68 136 = some (.istore_n 3, []) := kg_68_1 (i := 31) rfl
theorem kc_68_137 : xe_code 68 137 = some (.iconst 0, []) := kg_68_1 (i := 32) rfl
theorem kc_68_138 : xe_code 68 138 = some (.istore 4, []) := kg_68_1 (i := 33) rfl
theorem kc_68_140 : xe_code 68 140 = some (.iconst 0, []) := kg_68_1 (i := 34) rfl
theorem kc_68_141 : xe_code 68 141 = some (.istore 5, []) := kg_68_1 (i := 35) rfl
theorem kc_68_143 : xe_code 68 143 = some (.iconst 0, []) := kg_68_1 (i := 36) rfl
theorem kc_68_144 : xe_code 68 144 = some (.istore 6, []) := kg_68_1 (i := 37) rfl
theorem kc_68_146 : xe_code 68 146 = some (.iload 6, []) := kg_68_1 (i := 38) rfl
theorem kc_68_148 : xe_code 68 148 = some (.iconst 1, []) := kg_68_1 (i := 39) rfl
theorem kc_68_149 : xe_code 68 149 = some (.aload_n 0, []) := kg_68_1 (i := 40) rfl
theorem kc_68_150 : xe_code 68 150 = some (.getfield 302, [12, 54, 1001]) := kg_68_1 (i := 41) rfl
theorem kc_68_153 : xe_code 68 153 = some (.ishl, []) := kg_68_1 (i := 42) rfl
theorem kc_68_154 : xe_code 68 154 = some (.if_icmp .ge 91, [245]) := kg_68_1 (i := 43) rfl
theorem kc_68_157 : xe_code 68 157 = some (.iload 6, []) := kg_68_1 (i := 44) rfl
theorem kc_68_159 : xe_code 68 159 = some (.invokestatic 273, [49, 1, 1298, 12]) := kg_68_1 (i := 45) rfl
theorem kc_68_162 : xe_code 68 162 = some (.iload_n 2, []) := kg_68_1 (i := 46) rfl
theorem kc_68_163 : xe_code 68 163 = some (.if_icmp .ne 76, [239]) := kg_68_1 (i := 47) rfl
theorem kc_68_166 : xe_code 68 166 = some (.iconst 0, []) := kg_68_2 (i := 0) rfl
theorem kc_68_167 : xe_code 68 167 = some (.istore 7, []) := kg_68_2 (i := 1) rfl
theorem kc_68_169 : xe_code 68 169 = some (.iconst 0, []) := kg_68_2 (i := 2) rfl
theorem kc_68_170 : xe_code 68 170 = some (.istore 8, []) := kg_68_2 (i := 3) rfl
theorem kc_68_172 : xe_code 68 172 = some (.iload 8, []) := kg_68_2 (i := 4) rfl
theorem kc_68_174 : xe_code 68 174 = some (.aload_n 0, []) := kg_68_2 (i := 5) rfl
theorem kc_68_175 : xe_code 68 175 = some (.getfield 302, [12, 54, 1001]) := kg_68_2 (i := 6) rfl
theorem kc_68_178 : xe_code 68 178 = some (.if_icmp .ge 42, [220]) := kg_68_2 (i := 7) rfl
theorem kc_68_181 : xe_code 68 181 = some (.iload 7, []) := kg_68_2 (i := 8) rfl
theorem kc_68_183 : xe_code 68 183 = some (.iload 6, []) := kg_68_2 (i := 9) rfl
theorem kc_68_185 : xe_code 68 185 = some (.iload 8, []) := kg_68_2 (i := 10) rfl
theorem kc_68_187 : xe_code 68 187 = some (.ishr, []) := kg_68_2 (i := 11) rfl
theorem kc_68_188 : xe_code 68 188 = some (.iconst 1, []) := kg_68_2 (i := 12) rfl
theorem kc_68_189 : xe_code 68 189 = some (.iand, []) := kg_68_2 (i := 13) rfl
theorem kc_68_190 : xe_code 68 190 = some (.iconst 1, []) := kg_68_2 (i := 14) rfl
theorem kc_68_191 : xe_code 68 191 = some (.if_icmp .ne 19, [210]) := kg_68_2 (i := 15) rfl
theorem kc_68_194 : xe_code 68 194 = some (.aload_n 0, []) := kg_68_2 (i := 16) rfl
theorem kc_68_195 : xe_code 68 195 = some (.getfield 148, [12, 55, 1002]) := kg_68_2 (i := 17) rfl
theorem kc_68_198 : xe_code 68 198 = some (.iload 8, []) := kg_68_2 (i := 18) rfl
theorem kc_68_200 : xe_code 68 200 = some (.iaload, []) := kg_68_2 (i := 19) rfl
theorem kc_68_201 : xe_code 68 201 = some (.iload 6, []) := kg_68_2 (i := 20) rfl
theorem kc_68_203 : xe_code 68 203 = some (.iand, []) := kg_68_2 (i := 21) rfl
theorem kc_68_204 : xe_code 68 204 = some (.invokestatic 273, [49, 1, 1298, 12]) := kg_68_2 (i := 22) rfl
theorem kc_68_207 : xe_code 68 207 = some (.goto 4, [211]) := kg_68_2 (i := 23) rfl
theorem kc_68_210 : xe_code 68 210 = some (.iconst 0, []) := kg_68_2 (i := 24) rfl
theorem kc_68_211 : xe_code 68 211 = some (.iadd, []) := kg_68_2 (i := 25) rfl
theorem kc_68_212 : xe_code 68 212 = some (.istore 7, []) := kg_68_2 (i := 26) rfl
theorem kc_68_214 : xe_code 68 214 = some (.iinc 8 1, []) := kg_68_2 (i := 27) rfl
theorem kc_68_217 : xe_code 68 217 = some (.goto (-45), [172]) := kg_68_2 (i := 28) rfl
theorem kc_68_220 : xe_code 68 220 = some (.iinc 5 1, []) := kg_68_2 (i := 29) rfl
theorem kc_68_223 : xe_code 68 223 = some (.iload 4, []) := kg_68_2 (i := 30) rfl
theorem kc_68_225 : xe_code 68 225 = some (.iload 7, []) := kg_68_2 (i := 31) rfl
theorem kc_68_227 : xe_code 68 227 = some (.iload_n 3, []) := kg_68_2 (i := 32) rfl
theorem kc_68_228 : xe_code 68 228 = some (.if_icmp .lt 7, [235]) := kg_68_2 (i := 33) rfl
theorem kc_68_231 : xe_code 68 231 = some (.iconst 1, []) := kg_68_2 (i := 34) rfl
theorem kc_68_232 : xe_code 68 232 = some (.goto 4, [236]) := kg_68_2 (i := 35) rfl
theorem kc_68_235 : xe_code 68 235 = some (.iconst 0, []) := kg_68_2 (i := 36) rfl
theorem kc_68_236 : xe_code 68 236 = some (.iadd, []) := kg_68_2 (i := 37) rfl
theorem kc_68_237 : xe_code 68 237 = some (.istore 4, []) := kg_68_2 (i := 38) rfl
theorem kc_68_239 : xe_code 68 239 = some (.iinc 6 1, []) := kg_68_2 (i := 39) rfl
theorem kc_68_242 : xe_code 68 242 = some (.goto (-96), [146]) := kg_68_2 (i := 40) rfl
theorem kc_68_245 : xe_code 68 245 = some (.iload_n 1, []) := kg_68_2 (i := 41) rfl
theorem kc_68_246 : xe_code 68 246 = some (.ifCond .ne 8, [254]) := kg_68_2 (i := 42) rfl
theorem kc_68_249 : xe_code 68 249 = some (.iload 4, []) := kg_68_2 (i := 43) rfl
theorem kc_68_251 : xe_code 68 251 = some (.goto 5, [256]) := kg_68_2 (i := 44) rfl
theorem kc_68_254 : xe_code 68 254 = some (.iload 5, []) := kg_68_2 (i := 45) rfl
theorem kc_68_256 : xe_code 68 256 = some (.ireturn, []) := kg_68_2 (i := 46) rfl
theorem kc_69_0 : xe_code 69 0 = some (.aload_n 0, []) := kg_69_0 (i := 0) rfl
theorem kc_69_1 : xe_code 69 1 = some (.iconst 0, []) := kg_69_0 (i := 1) rfl
theorem kc_69_2 : xe_code 69 2 = some (.putfield 302, [12, 54, 1001]) := kg_69_0 (i := 2) rfl
theorem kc_69_5 : xe_code 69 5 = some (.iconst 0, []) := kg_69_0 (i := 3) rfl
theorem kc_69_6 : xe_code 69 6 = some (.istore_n 1, []) := kg_69_0 (i := 4) rfl
theorem kc_69_7 : xe_code 69 7 = some (.iload_n 1, []) := kg_69_0 (i := 5) rfl
theorem kc_69_8 : xe_code 69 8 = some (.bipush 24, []) := kg_69_0 (i := 6) rfl
theorem kc_69_10 : xe_code 69 10 = some (.if_icmp .ge 39, [49]) := kg_69_0 (i := 7) rfl
theorem kc_69_13 : xe_code 69 13 = some (.aload_n 0, []) := kg_69_0 (i := 8) rfl
theorem kc_69_14 : xe_code 69 14 = some (.getfield 142, [12, 52, 999]) := kg_69_0 (i := 9) rfl
theorem kc_69_17 : xe_code 69 17 = some (.iload_n 1, []) := kg_69_0 (i := 10) rfl
theorem kc_69_18 : xe_code 69 18 = some (.iaload, []) := kg_69_0 (i := 11) rfl
theorem kc_69_19 : xe_code 69 19 = some (.iconst 2, []) := kg_69_0 (i := 12) rfl
theorem kc_69_20 : xe_code 69 20 = some (.if_icmp .ge 23, [43]) := kg_69_0 (i := 13) rfl
theorem kc_69_23 : xe_code 69 23 = some (.aload_n 0, []) := kg_69_0 (i := 14) rfl
theorem kc_69_24 : xe_code 69 24 = some (.getfield 145, [12, 53, 1000]) := kg_69_0 (i := 15) rfl
theorem kc_69_27 : xe_code 69 27 = some (.aload_n 0, []) := kg_69_0 (i := 16) rfl
theorem kc_69_28 : xe_code 69 28 = some (.getfield 302, [12, 54, 1001]) := kg_69_0 (i := 17) rfl
theorem kc_69_31 : xe_code 69 31 = some (.iload_n 1, []) := kg_69_0 (i := 18) rfl
theorem kc_69_32 : xe_code 69 32 = some (.iastore, []) := kg_69_0 (i := 19) rfl
theorem kc_69_33 : xe_code 69 33 = some (.aload_n 0, []) := kg_69_0 (i := 20) rfl
theorem kc_69_34 : xe_code 69 34 = some (.dup, []) := kg_69_0 (i := 21) rfl
theorem kc_69_35 : xe_code 69 35 = some (.getfield 302, [12, 54, 1001]) := kg_69_0 (i := 22) rfl
theorem kc_69_38 : xe_code 69 38 = some (.iconst 1, []) := kg_69_0 (i := 23) rfl
theorem kc_69_39 : xe_code 69 39 = some (.iadd, []) := kg_69_0 (i := 24) rfl
theorem kc_69_40 : xe_code 69 40 = some (.putfield 302, [12, 54, 1001]) := kg_69_0 (i := 25) rfl
theorem kc_69_43 : xe_code 69 43 = some (.iinc 1 1, []) := kg_69_0 (i := 26) rfl
theorem kc_69_46 : xe_code 69 46 = some (.goto (-39), [7]) := kg_69_0 (i := 27) rfl
theorem kc_69_49 : xe_code 69 49 = some (.return_, []) := kg_69_0 (i := 28) rfl
theorem kc_70_0 : xe_code 70 0 = some (.aload_n 0, []) := kg_70_0 (i := 0) rfl
theorem kc_70_1 : xe_code 70 1 = some (.iconst 0, []) := kg_70_0 (i := 1) rfl
theorem kc_70_2 : xe_code 70 2 = some (.putfield 169, [12, 0, 947]) := kg_70_0 (i := 2) rfl
theorem kc_70_5 : xe_code 70 5 = some (.iload_n 2, []) := kg_70_0 (i := 3) rfl
theorem kc_70_6 : xe_code 70 6 = some (.iconst 0, []) := kg_70_0 (i := 4) rfl
theorem kc_70_7 : xe_code 70 7 = some (.iconst 3, []) := kg_70_0 (i := 5) rfl
theorem kc_70_8 : xe_code 70 8 = some (.invokestatic 173, [11, 3, 1148, 12]) := kg_70_0 (i := 6) rfl
theorem kc_70_11 : xe_code 70 11 = some (.ifCond .eq 12, [23]) := kg_70_0 (i := 7) rfl
theorem kc_70_14 : xe_code 70 14 = some (.iload_n 3, []) := kg_70_0 (i := 8) rfl
theorem kc_70_15 : xe_code 70 15 = some (.iconst 0, []) := kg_70_0 (i := 9) rfl
theorem kc_70_16 : xe_code 70 16 = some (.iconst 1, []) := kg_70_0 (i := 10) rfl
theorem kc_70_17 : xe_code 70 17 = some (.invokestatic 173, [11, 3, 1148, 12]) := kg_70_0 (i := 11) rfl
theorem kc_70_20 : xe_code 70 20 = some (.ifCond .ne 10, [30]) := kg_70_0 (i := 12) rfl
theorem kc_70_23 : xe_code 70 23 = some (.aload_n 0, []) := kg_70_0 (i := 13) rfl
theorem kc_70_24 : xe_code 70 24 = some (.bipush (-2), []) := kg_70_0 (i := 14) rfl
theorem kc_70_26 : xe_code 70 26 = some (.invokevirtual 188, [12, 1, 1151, 12]) := kg_70_0 (i := 15) rfl
theorem kc_70_29 : xe_code 70 29 = some (.ireturn, []) := kg_70_0 (i := 16) rfl
theorem kc_70_30 : xe_code 70 30 = some (.iload_n 1, []) := kg_70_0 (i := 17) rfl
theorem kc_70_31 : xe_code 70 31 = some (.aload_n 0, []) := kg_70_0 (i := 18) rfl
theorem kc_70_32 : xe_code 70 32 = some (.getfield 213, [12, 1, 948]) := kg_70_0 (i := 19) rfl
theorem kc_70_35 : xe_code 70 35 = some (.bipush 24, []) := kg_70_0 (i := 20) rfl
theorem kc_70_37 : xe_code 70 37 = some (.idiv, []) := kg_70_0 (i := 21) rfl
theorem kc_70_38 : xe_code 70 38 = some (.if_icmp .lt 8, [46]) := kg_70_0 (i := 22) rfl
theorem kc_70_41 : xe_code 70 41 = some (.iload 4, []) := kg_70_0 (i := 23) rfl
theorem kc_70_43 : xe_code 70 43 = some (.ifCond .ge 10, [53]) := kg_70_0 (i := 24) rfl
theorem kc_70_46 : xe_code 70 46 = some (.aload_n 0, []) := kg_70_0 (i := 25) rfl
theorem kc_70_47 : xe_code 70 47 = some (.bipush (-4), []) := kg_70_0 (i := 26) rfl
theorem kc_70_49 : xe_code 70 49 = some (.invokevirtual 188, [12, 1, 1151, 12]) := kg_70_0 (i := 27) rfl
theorem kc_70_52 : xe_code 70 52 = some (.ireturn, []) := kg_70_0 (i := 28) rfl
theorem kc_70_53 : xe_code 70 53 = some (.iload_n 1, []) := kg_70_0 (i := 29) rfl
theorem kc_70_54 : xe_code 70 54 = some (.bipush 25, []) := kg_70_0 (i := 30) rfl
theorem kc_70_56 : xe_code 70 56 = some (.if_icmp .gt 19, [75]) := kg_70_0 (i := 31) rfl
theorem kc_70_59 : xe_code 70 59 = some (.iload 4, []) := kg_70_0 (i := 32) rfl
theorem kc_70_61 : xe_code 70 61 = some (.bipush 99, []) := kg_70_0 (i := 33) rfl
theorem kc_70_63 : xe_code 70 63 = some (.if_icmp .gt 12, [75]) := kg_70_0 (i := 34) rfl
theorem kc_70_66 : xe_code 70 66 = some (.aload_n 0, []) := kg_70_0 (i := 35) rfl
theorem kc_70_67 : xe_code 70 67 = some (.getfield 314, [12, 56, 1003]) := kg_70_0 (i := 36) rfl
theorem kc_70_70 : xe_code 70 70 = some (.bipush 12, []) := kg_70_0 (i := 37) rfl
theorem kc_70_72 : xe_code 70 72 = some (.if_icmp .ne 10, [82]) := kg_70_0 (i := 38) rfl
theorem kc_70_75 : xe_code 70 75 = some (.aload_n 0, []) := kg_70_0 (i := 39) rfl
theorem kc_70_76 : xe_code 70 76 = some (.bipush (-6), []) := kg_70_0 (i := 40) rfl
theorem kc_70_78 : xe_code 70 78 = some (.invokevirtual 188, [12, 1, 1151, 12]) := kg_70_0 (i := 41) rfl
theorem kc_70_81 : xe_code 70 81 = some (.ireturn, []) := kg_70_0 (i := 42) rfl
theorem kc_70_82 : xe_code 70 82 = some (.aload_n 0, []) := kg_70_0 (i := 43) rfl
theorem kc_70_83 : xe_code 70 83 = some (.getfield 151, [12, 57, 1004]) := kg_70_0 (i := 44) rfl
theorem kc_70_86 : xe_code 70 86 = some (.aload_n 0, []) := kg_70_0 (i := 45) rfl
theorem kc_70_87 : xe_code 70 87 = some (.getfield 314, [12, 56, 1003]) := kg_70_0 (i := 46) rfl
theorem kc_70_90 : xe_code 70 90 = some (.iload_n 1, []) := kg_70_0 (i := 47) rfl
theorem kc_70_91 : xe_code 70 91 = some (.iastore, []) := kg_70_1 (i := 0) rfl
theorem kc_70_92 : xe_code 70 92 = some (.aload_n 0, []) := kg_70_1 (i := 1) rfl
theorem kc_70_93 : xe_code 70 93 = some (.getfield 154, [12, 58, 1005]) := kg_70_1 (i := 2) rfl
theorem kc_70_96 : xe_code 70 96 = some (.aload_n 0, []) := kg_70_1 (i := 3) rfl
theorem kc_70_97 : xe_code 70 97 = some (.getfield 314, [12, 56, 1003]) := kg_70_1 (i := 4) rfl
theorem kc_70_100 : xe_code 70 100 = some (.iload_n 2, []) := kg_70_1 (i := 5) rfl
theorem kc_70_101 : xe_code 70 101 = some (.iastore, []) := kg_70_1 (i := 6) rfl
theorem kc_70_102 : xe_code 70 102 = some (.aload_n 0, []) := kg_70_1 (i := 7) rfl
theorem kc_70_103 : xe_code 70 103 = some (.getfield 157, [12, 59, 1006]) := kg_70_1 (i := 8) rfl
theorem kc_70_106 : xe_code 70 106 = some (.aload_n 0, []) := kg_70_1 (i := 9) rfl
theorem kc_70_107 : xe_code 70 107 = some (.getfield 314, [12, 56, 1003]) := kg_70_1 (i := 10) rfl
theorem kc_70_110 : xe_code 70 110 = some (.iload_n 3, []) := kg_70_1 (i := 11) rfl
theorem kc_70_111 : xe_code 70 111 = some (.iastore, []) := kg_70_1 (i := 12) rfl
theorem kc_70_112 : xe_code 70 112 = some (.aload_n 0, []) := kg_70_1 (i := 13) rfl
theorem kc_70_113 : xe_code 70 113 = some (.getfield 160, [12, 60, 1007]) := kg_70_1 (i := 14) rfl
theorem kc_70_116 : xe_code 70 116 = some (.aload_n 0, []) := kg_70_1 (i := 15) rfl
theorem kc_70_117 : xe_code 70 117 = some (.getfield 314, [12, 56, 1003]) := kg_70_1 (i := 16) rfl
theorem kc_70_120 : xe_code 70 120 = some (.iload 4, []) := kg_70_1 (i := 17) rfl
theorem kc_70_122 : xe_code 70 122 = some (.iastore, []) := kg_70_1 (i := 18) rfl
theorem kc_70_123 : xe_code 70 123 = some (.aload_n 0, []) := kg_70_1 (i := 19) rfl
theorem kc_70_124 : xe_code 70 124 = some (.dup, []) := kg_70_1 (i := 20) rfl
theorem kc_70_125 : xe_code 70 125 = some (.getfield 314, [12, 56, 1003]) := kg_70_1 (i := 21) rfl
theorem kc_70_128 : xe_code 70 128 = some (.iconst 1, []) := kg_70_1 (i := 22) rfl
theorem kc_70_129 : xe_code 70 129 = some (.iadd, []) := kg_70_1 (i := 23) rfl
theorem kc_70_130 : xe_code 70 130 = some (.putfield 314, [12, 56, 1003]) := kg_70_1 (i := 24) rfl
theorem kc_70_133 : xe_code 70 133 = some (.aload_n 0, []) := kg_70_1 (i := 25) rfl
theorem kc_70_134 : xe_code 70 134 = some (.getfield 314, [12, 56, 1003]) := kg_70_1 (i := 26) rfl
theorem kc_70_137 : xe_code 70 137 = some (.iconst 1, []) := kg_70_1 (i := 27) rfl
theorem kc_70_138 : xe_code 70 138 = some (.isub, []) := kg_70_1 (i := 28) rfl
theorem kc_70_139 : xe_code 70 139 = some (.ireturn, []) := kg_70_1 (i := 29) rfl
theorem kc_71_0 : xe_code 71 0 = some (.aload_n 0, []) := kg_71_0 (i := 0) rfl
theorem kc_71_1 : xe_code 71 1 = some (.iconst 0, []) := kg_71_0 (i := 1) rfl
theorem kc_71_2 : xe_code 71 2 = some (.putfield 169, [12, 0, 947]) := kg_71_0 (i := 2) rfl
theorem kc_71_5 : xe_code 71 5 = some (.aload_n 0, []) := kg_71_0 (i := 3) rfl
theorem kc_71_6 : xe_code 71 6 = some (.getfield 317, [12, 61, 1008]) := kg_71_0 (i := 4) rfl
theorem kc_71_9 : xe_code 71 9 = some (.istore_n 2, []) := kg_71_0 (i := 5) rfl
theorem kc_71_10 : xe_code 71 10 = some (.aload_n 0, []) := kg_71_0 (i := 6) rfl
theorem kc_71_11 : xe_code 71 11 = some (.iload_n 1, []) := kg_71_0 (i := 7) rfl
theorem kc_71_12 : xe_code 71 12 = some (.putfield 317, [12, 61, 1008]) := kg_71_0 (i := 8) rfl
theorem kc_71_15 : xe_code 71 15 = some (.iload_n 2, []) := kg_71_0 (i := 9) rfl
theorem kc_71_16 : xe_code 71 16 = some (.iload_n 1, []) := kg_71_0 (i := 10) rfl
theorem kc_71_17 : xe_code 71 17 = some (.if_icmp .ne 7, [24]) := kg_71_0 (i := 11) rfl
theorem kc_71_20 : xe_code 71 20 = some (.iconst 0, []) := kg_71_0 (i := 12) rfl
theorem kc_71_21 : xe_code 71 21 = some (.goto 4, [25]) := kg_71_0 (i := 13) rfl
theorem kc_71_24 : xe_code 71 24 = some (.iconst 1, []) := kg_71_0 (i := 14) rfl
theorem kc_71_25 : xe_code 71 25 = some (.ireturn, []) := kg_71_0 (i := 15) rfl
theorem kc_72_0 : xe_code 72 0 = some (.aload_n 0, []) := kg_72_0 (i := 0) rfl
theorem kc_72_1 : xe_code 72 1 = some (.iconst 0, []) := kg_72_0 (i := 1) rfl
theorem kc_72_2 : xe_code 72 2 = some (.putfield 169, [12, 0, 947]) := kg_72_0 (i := 2) rfl
theorem kc_72_5 : xe_code 72 5 = some (.iload_n 2, []) := kg_72_0 (i := 3) rfl
theorem kc_72_6 : xe_code 72 6 = some (.iconst 0, []) := kg_72_0 (i := 4) rfl
theorem kc_72_7 : xe_code 72 7 = some (.iconst 3, []) := kg_72_0 (i := 5) rfl
theorem kc_72_8 : xe_code 72 8 = some (.invokestatic 173, [11, 3, 1148, 12]) := kg_72_0 (i := 6) rfl
theorem kc_72_11 : xe_code 72 11 = some (.ifCond .ne 10, [21]) := kg_72_0 (i := 7) rfl
theorem kc_72_14 : xe_code 72 14 = some (.aload_n 0, []) := kg_72_0 (i := 8) rfl
theorem kc_72_15 : xe_code 72 15 = some (.bipush (-2), []) := kg_72_0 (i := 9) rfl
theorem kc_72_17 : xe_code 72 17 = some (.invokevirtual 188, [12, 1, 1151, 12]) := kg_72_0 (i := 10) rfl
theorem kc_72_20 : xe_code 72 20 = some (.ireturn, []) := kg_72_0 (i := 11) rfl
theorem kc_72_21 : xe_code 72 21 = some (.aload_n 0, []) := kg_72_0 (i := 12) rfl
theorem kc_72_22 : xe_code 72 22 = some (.getfield 163, [12, 62, 1009]) := kg_72_0 (i := 13) rfl
theorem kc_72_25 : xe_code 72 25 = some (.iconst 2, []) := kg_72_0 (i := 14) rfl
theorem kc_72_26 : xe_code 72 26 = some (.iload_n 2, []) := kg_72_0 (i := 15) rfl
theorem kc_72_27 : xe_code 72 27 = some (.imul, []) := kg_72_0 (i := 16) rfl
theorem kc_72_28 : xe_code 72 28 = some (.iload_n 1, []) := kg_72_0 (i := 17) rfl
theorem kc_72_29 : xe_code 72 29 = some (.ifCond .eq 7, [36]) := kg_72_0 (i := 18) rfl
theorem kc_72_32 : xe_code 72 32 = some (.iconst 1, []) := kg_72_0 (i := 19) rfl
theorem kc_72_33 : xe_code 72 33 = some (.goto 4, [37]) := kg_72_0 (i := 20) rfl
theorem kc_72_36 : xe_code 72 36 = some (.iconst 0, []) := kg_72_0 (i := 21) rfl
theorem kc_72_37 : xe_code 72 37 = some (.iadd, []) := kg_72_0 (i := 22) rfl
theorem kc_72_38 : xe_code 72 38 = some (.iload_n 3, []) := kg_72_0 (i := 23) rfl
theorem kc_72_39 : xe_code 72 39 = some (.ifCond .eq 7, [46]) := kg_72_0 (i := 24) rfl
theorem kc_72_42 : xe_code 72 42 = some (.iconst 1, []) := kg_72_0 (i := 25) rfl
theorem kc_72_43 : xe_code 72 43 = some (.goto 4, [47]) := kg_72_0 (i := 26) rfl
theorem kc_72_46 : xe_code 72 46 = some (.iconst 0, []) := kg_72_0 (i := 27) rfl
theorem kc_72_47 : xe_code 72 47 = some (.iastore, []) := kg_72_0 (i := 28) rfl
theorem kc_72_48 : xe_code 72 48 = some (.aload_n 0, []) := kg_72_0 (i := 29) rfl
theorem kc_72_49 : xe_code 72 49 = some (.getfield 166, [12, 63, 1010]) := kg_72_0 (i := 30) rfl
theorem kc_72_52 : xe_code 72 52 = some (.iload_n 2, []) := kg_72_0 (i := 31) rfl
theorem kc_72_53 : xe_code 72 53 = some (.iload_n 3, []) := kg_72_0 (i := 32) rfl
theorem kc_72_54 : xe_code 72 54 = some (.ifCond .eq 10, [64]) := kg_72_0 (i := 33) rfl
theorem kc_72_57 : xe_code 72 57 = some (.aload_n 0, []) := kg_72_0 (i := 34) rfl
theorem kc_72_58 : xe_code 72 58 = some (.getfield 213, [12, 1, 948]) := kg_72_0 (i := 35) rfl
theorem kc_72_61 : xe_code 72 61 = some (.goto 9, [70]) := kg_72_0 (i := 36) rfl
theorem kc_72_64 : xe_code 72 64 = some (.aload_n 0, []) := kg_72_0 (i := 37) rfl
theorem kc_72_65 : xe_code 72 65 = some (.getfield 166, [12, 63, 1010]) := kg_72_0 (i := 38) rfl
theorem kc_72_68 : xe_code 72 68 = some (.iload_n 2, []) := kg_72_0 (i := 39) rfl
theorem kc_72_69 : xe_code 72 69 = some (.iaload, []) := kg_72_0 (i := 40) rfl
theorem kc_72_70 : xe_code 72 70 = some (.iastore, []) := kg_72_0 (i := 41) rfl
theorem kc_72_71 : xe_code 72 71 = some (.iconst 1, []) := kg_72_0 (i := 42) rfl
theorem kc_72_72 : xe_code 72 72 = some (.ireturn, []) := kg_72_0 (i := 43) rfl
theorem kc_73_0 : xe_code 73 0 = some (.aload_n 0, []) := kg_73_0 (i := 0) rfl
theorem kc_73_1 : xe_code 73 1 = some (.iconst 0, []) := kg_73_0 (i := 1) rfl
theorem kc_73_2 : xe_code 73 2 = some (.putfield 169, [12, 0, 947]) := kg_73_0 (i := 2) rfl
theorem kc_73_5 : xe_code 73 5 = some (.iload_n 1, []) := kg_73_0 (i := 3) rfl
theorem kc_73_6 : xe_code 73 6 = some (.iconst 0, []) := kg_73_0 (i := 4) rfl
theorem kc_73_7 : xe_code 73 7 = some (.iconst 3, []) := kg_73_0 (i := 5) rfl
theorem kc_73_8 : xe_code 73 8 = some (.invokestatic 173, [11, 3, 1148, 12]) := kg_73_0 (i := 6) rfl
theorem kc_73_11 : xe_code 73 11 = some (.ifCond .eq 12, [23]) := kg_73_0 (i := 7) rfl
theorem kc_73_14 : xe_code 73 14 = some (.iload_n 2, []) := kg_73_0 (i := 8) rfl
theorem kc_73_15 : xe_code 73 15 = some (.iconst 0, []) := kg_73_0 (i := 9) rfl
theorem kc_73_16 : xe_code 73 16 = some (.iconst 1, []) := kg_73_0 (i := 10) rfl
theorem kc_73_17 : xe_code 73 17 = some (.invokestatic 173, [11, 3, 1148, 12]) := kg_73_0 (i := 11) rfl
theorem kc_73_20 : xe_code 73 20 = some (.ifCond .ne 10, [30]) := kg_73_0 (i := 12) rfl
theorem kc_73_23 : xe_code 73 23 = some (.aload_n 0, []) := kg_73_0 (i := 13) rfl
theorem kc_73_24 : xe_code 73 24 = some (.bipush (-2), []) := kg_73_0 (i := 14) rfl
theorem kc_73_26 : xe_code 73 26 = some (.invokevirtual 188, [12, 1, 1151, 12]) := kg_73_0 (i := 15) rfl
theorem kc_73_29 : xe_code 73 29 = some (.ireturn, []) := kg_73_0 (i := 16) rfl
theorem kc_73_30 : xe_code 73 30 = some (.aload_n 0, []) := kg_73_0 (i := 17) rfl
theorem kc_73_31 : xe_code 73 31 = some (.invokevirtual 276, [48, 0, 1294, 12]) := kg_73_0 (i := 18) rfl
theorem kc_73_34 : xe_code 73 34 = some (.istore_n 3, []) := kg_73_0 (i := 19) rfl
theorem kc_73_35 : xe_code 73 35 = some (.iconst 0, []) := kg_73_0 (i := 20) rfl
theorem kc_73_36 : xe_code 73 36 = some (.istore 4, []) := kg_73_0 (i := 21) rfl
theorem kc_73_38 : xe_code 73 38 = some (.iconst 0, []) := kg_73_0 (i := 22) rfl
theorem kc_73_39 : xe_code 73 39 = some (.istore 5, []) := kg_73_0 (i := 23) rfl
theorem kc_73_41 : xe_code 73 41 = some (.iload 5, []) := kg_73_0 (i := 24) rfl
theorem kc_73_43 : xe_code 73 43 = some (.bipush 6, []) := kg_73_0 (i := 25) rfl
theorem kc_73_45 : xe_code 73 45 = some (.if_icmp .ge 51, [96]) := kg_73_0 (i := 26) rfl
theorem kc_73_48 : xe_code 73 48 = some (.iload 5, []) := kg_73_0 (i := 27) rfl
theorem kc_73_50 : xe_code 73 50 = some (.aload_n 0, []) := kg_73_0 (i := 28) rfl
theorem kc_73_51 : xe_code 73 51 = some (.getfield 225, [12, 23, 970]) := kg_73_0 (i := 29) rfl
theorem kc_73_54 : xe_code 73 54 = some (.if_icmp .ge 42, [96]) := kg_73_0 (i := 30) rfl
theorem kc_73_57 : xe_code 73 57 = some (.iload 4, []) := kg_73_0 (i := 31) rfl
theorem kc_73_59 : xe_code 73 59 = some (.ifCond .ne 24, [83]) := kg_73_0 (i := 32) rfl
theorem kc_73_62 : xe_code 73 62 = some (.iload_n 3, []) := kg_73_0 (i := 33) rfl
theorem kc_73_63 : xe_code 73 63 = some (.iload 5, []) := kg_73_0 (i := 34) rfl
theorem kc_73_65 : xe_code 73 65 = some (.ishr, []) := kg_73_0 (i := 35) rfl
theorem kc_73_66 : xe_code 73 66 = some (.iconst 1, []) := kg_73_0 (i := 36) rfl
theorem kc_73_67 : xe_code 73 67 = some (.iand, []) := kg_73_0 (i := 37) rfl
theorem kc_73_68 : xe_code 73 68 = some (.iconst 1, []) := kg_73_0 (i := 38) rfl
theorem kc_73_69 : xe_code 73 69 = some (.if_icmp .ne 18, [87]) := kg_73_0 (i := 39) rfl
theorem kc_73_72 : xe_code 73 72 = some (.aload_n 0, []) := kg_73_0 (i := 40) rfl
theorem kc_73_73 : xe_code 73 73 = some (.getfield 72, [12, 24, 971]) := kg_73_0 (i := 41) rfl
theorem kc_73_76 : xe_code 73 76 = some (.iload 5, []) := kg_73_0 (i := 42) rfl
theorem kc_73_78 : xe_code 73 78 = some (.iaload, []) := kg_73_0 (i := 43) rfl
theorem kc_73_79 : xe_code 73 79 = some (.iload_n 1, []) := kg_73_0 (i := 44) rfl
theorem kc_73_80 : xe_code 73 80 = some (.if_icmp .ne 7, [87]) := kg_73_0 (i := 45) rfl
theorem kc_73_83 : xe_code 73 83 = some (.iconst 1, []) := kg_73_0 (i := 46) rfl
theorem kc_73_84 : xe_code 73 84 = some (.goto 4, [88]) := kg_73_0 (i := 47) rfl
theorem kc_73_87 : xe_code 73 87 = some (.iconst 0, []) := kg_73_1 (i := 0) rfl
theorem kc_73_88 : xe_code 73 88 = some (.istore 4, []) := kg_73_1 (i := 1) rfl
theorem kc_73_90 : xe_code 73 90 = some (.iinc 5 1, []) := kg_73_1 (i := 2) rfl
theorem kc_73_93 : xe_code 73 93 = some (.goto (-52), [41]) := kg_73_1 (i := 3) rfl
theorem kc_73_96 : xe_code 73 96 = some (.aload_n 0, []) := kg_73_1 (i := 4) rfl
theorem kc_73_97 : xe_code 73 97 = some (.getfield 166, [12, 63, 1010]) := kg_73_1 (i := 5) rfl
theorem kc_73_100 : xe_code 73 100 = some (.iload_n 1, []) := kg_73_1 (i := 6) rfl
theorem kc_73_101 : xe_code 73 101 = some (.iaload, []) := kg_73_1 (i := 7) rfl
theorem kc_73_102 : xe_code 73 102 = some (.ifCond .ge 10, [112]) := kg_73_1 (i := 8) rfl
theorem kc_73_105 : xe_code 73 105 = some (.aload_n 0, []) := kg_73_1 (i := 9) rfl
theorem kc_73_106 : xe_code 73 106 = some (.getfield 213, [12, 1, 948]) := kg_73_1 (i := 10) rfl
theorem kc_73_109 : xe_code 73 109 = some (.goto 9, [118]) := kg_73_1 (i := 11) rfl
theorem kc_73_112 : xe_code 73 112 = some (.aload_n 0, []) := kg_73_1 (i := 12) rfl
theorem kc_73_113 : xe_code 73 113 = some (.getfield 166, [12, 63, 1010]) := kg_73_1 (i := 13) rfl
theorem kc_73_116 : xe_code 73 116 = some (.iload_n 1, []) := kg_73_1 (i := 14) rfl
theorem kc_73_117 : xe_code 73 117 = some (.iaload, []) := kg_73_1 (i := 15) rfl
theorem kc_73_118 : xe_code 73 118 = some (.bipush 24, []) := kg_73_1 (i := 16) rfl
theorem kc_73_120 : xe_code 73 120 = some (.idiv, []) := kg_73_1 (i := 17) rfl
theorem kc_73_121 : xe_code 73 121 = some (.istore 5, []) := kg_73_1 (i := 18) rfl
theorem kc_73_123 : xe_code 73 123 = some (.iconst (-1), []) := kg_73_1 (i := 19) rfl
theorem kc_73_124 : xe_code 73 124 = some (.istore 6, []) := kg_73_1 (i := 20) rfl
theorem kc_73_126 : xe_code 73 126 = some (.iconst 0, []) := kg_73_1 (i := 21) rfl
theorem kc_73_127 : xe_code 73 127 = some (.istore 7, []) := kg_73_1 (i := 22) rfl
theorem kc_73_129 : xe_code 73 129 = some (.iload 7, []) := kg_73_1 (i := 23) rfl
theorem kc_73_131 : xe_code 73 131 = some (.aload_n 0, []) := kg_73_1 (i := 24) rfl
theorem kc_73_132 : xe_code 73 132 = some (.getfield 314, [12, 56, 1003]) := kg_73_1 (i := 25) rfl
theorem kc_73_135 : xe_code 73 135 = some (.if_icmp .ge 63, [198]) := kg_73_1 (i := 26) rfl
theorem kc_73_138 : xe_code 73 138 = some (.aload_n 0, []) := kg_73_1 (i := 27) rfl
theorem kc_73_139 : xe_code 73 139 = some (.getfield 154, [12, 58, 1005]) := kg_73_1 (i := 28) rfl
theorem kc_73_142 : xe_code 73 142 = some (.iload 7, []) := kg_73_1 (i := 29) rfl
theorem kc_73_144 : xe_code 73 144 = some (.iaload, []) := kg_73_1 (i := 30) rfl
theorem kc_73_145 : xe_code 73 145 = some (.iload_n 1, []) := kg_73_1 (i := 31) rfl
theorem kc_73_146 : xe_code 73 146 = some (.if_icmp .ne 42, [188]) := kg_73_1 (i := 32) rfl
theorem kc_73_149 : xe_code 73 149 = some (.aload_n 0, []) := kg_73_1 (i := 33) rfl
theorem kc_73_150 : xe_code 73 150 = some (.getfield 151, [12, 57, 1004]) := kg_73_1 (i := 34) rfl
theorem kc_73_153 : xe_code 73 153 = some (.iload 7, []) := kg_73_1 (i := 35) rfl
theorem kc_73_155 : xe_code 73 155 = some (.iaload, []) := kg_73_1 (i := 36) rfl
theorem kc_73_156 : xe_code 73 156 = some (.iload 5, []) := kg_73_1 (i := 37) rfl
theorem kc_73_158 : xe_code 73 158 = some (.if_icmp .gt 30, [188]) := kg_73_1 (i := 38) rfl
theorem kc_73_161 : xe_code 73 161 = some (.iload 6, []) := kg_73_1 (i := 39) rfl
theorem kc_73_163 : xe_code 73 163 = some (.ifCond .lt 20, [183]) := kg_73_1 (i := 40) rfl
theorem kc_73_166 : xe_code 73 166 = some (.aload_n 0, []) := kg_73_1 (i := 41) rfl
theorem kc_73_167 : xe_code 73 167 = some (.getfield 151, [12, 57, 1004]) := kg_73_1 (i := 42) rfl
theorem kc_73_170 : xe_code 73 170 = some (.iload 7, []) := kg_73_1 (i := 43) rfl
theorem kc_73_172 : xe_code 73 172 = some (.iaload, []) := kg_73_1 (i := 44) rfl
theorem kc_73_173 : xe_code 73 173 = some (.aload_n 0, []) := kg_73_1 (i := 45) rfl
theorem kc_73_174 : xe_code 73 174 = some (.getfield 151, [12, 57, 1004]) := kg_73_1 (i := 46) rfl
theorem kc_73_177 : xe_code 73 177 = some (.iload 6, []) := kg_73_1 (i := 47) rfl
theorem kc_73_179 : xe_code 73 179 = some (.iaload, []) := kg_73_2 (i := 0) rfl
theorem kc_73_180 : xe_code 73 180 = some (.if_icmp .lt 8, [188]) := kg_73_2 (i := 1) rfl
theorem kc_73_183 : xe_code 73 183 = some (.iload 7, []) := kg_73_2 (i := 2) rfl
theorem kc_73_185 : xe_code 73 185 = some (.goto 5, [190]) := kg_73_2 (i := 3) rfl
theorem kc_73_188 : xe_code 73 188 = some (.iload 6, []) := kg_73_2 (i := 4) rfl
theorem kc_73_190 : xe_code 73 190 = some (.istore 6, []) := kg_73_2 (i := 5) rfl
theorem kc_73_192 : xe_code 73 192 = some (.iinc 7 1, []) := kg_73_2 (i := 6) rfl
theorem kc_73_195 : xe_code 73 195 = some (.goto (-66), [129]) := kg_73_2 (i := 7) rfl
theorem kc_73_198 : xe_code 73 198 = some (.iload 4, []) := kg_73_2 (i := 8) rfl
theorem kc_73_200 : xe_code 73 200 = some (.ifCond .eq 8, [208]) := kg_73_2 (i := 9) rfl
theorem kc_73_203 : xe_code 73 203 = some (.iload 6, []) := kg_73_2 (i := 10) rfl
theorem kc_73_205 : xe_code 73 205 = some (.ifCond .ge 6, [211]) := kg_73_2 (i := 11) rfl
theorem kc_73_208 : xe_code 73 208 = some (.bipush (-9), []) := kg_73_2 (i := 12) rfl
theorem kc_73_210 : xe_code 73 210 = some (.ireturn, []) := kg_73_2 (i := 13) rfl
theorem kc_73_211 : xe_code 73 211 = some (.aload_n 0, []) := kg_73_2 (i := 14) rfl
theorem kc_73_212 : xe_code 73 212 = some (.getfield 317, [12, 61, 1008]) := kg_73_2 (i := 15) rfl
theorem kc_73_215 : xe_code 73 215 = some (.ifCond .eq 17, [232]) := kg_73_2 (i := 16) rfl
theorem kc_73_218 : xe_code 73 218 = some (.aload_n 0, []) := kg_73_2 (i := 17) rfl
theorem kc_73_219 : xe_code 73 219 = some (.getfield 160, [12, 60, 1007]) := kg_73_2 (i := 18) rfl
theorem kc_73_222 : xe_code 73 222 = some (.iload 6, []) := kg_73_2 (i := 19) rfl
theorem kc_73_224 : xe_code 73 224 = some (.iaload, []) := kg_73_2 (i := 20) rfl
theorem kc_73_225 : xe_code 73 225 = some (.iconst 1, []) := kg_73_2 (i := 21) rfl
theorem kc_73_226 : xe_code 73 226 = some (.iadd, []) := kg_73_2 (i := 22) rfl
theorem kc_73_227 : xe_code 73 227 = some (.iconst 2, []) := kg_73_2 (i := 23) rfl
theorem kc_73_228 : xe_code 73 228 = some (.idiv, []) := kg_73_2 (i := 24) rfl
theorem kc_73_229 : xe_code 73 229 = some (.goto 10, [239]) := kg_73_2 (i := 25) rfl
theorem kc_73_232 : xe_code 73 232 = some (.aload_n 0, []) := kg_73_2 (i := 26) rfl
theorem kc_73_233 : xe_code 73 233 = some (.getfield 160, [12, 60, 1007]) := kg_73_2 (i := 27) rfl
theorem kc_73_236 : xe_code 73 236 = some (.iload 6, []) := kg_73_2 (i := 28) rfl
theorem kc_73_238 : xe_code 73 238 = some (.iaload, []) := kg_73_2 (i := 29) rfl
theorem kc_73_239 : xe_code 73 239 = some (.istore 7, []) := kg_73_2 (i := 30) rfl
theorem kc_73_241 : xe_code 73 241 = some (.iload_n 2, []) := kg_73_2 (i := 31) rfl
theorem kc_73_242 : xe_code 73 242 = some (.ifCond .ne 11, [253]) := kg_73_2 (i := 32) rfl
theorem kc_73_245 : xe_code 73 245 = some (.iload 5, []) := kg_73_2 (i := 33) rfl
theorem kc_73_247 : xe_code 73 247 = some (.iload 7, []) := kg_73_2 (i := 34) rfl
theorem kc_73_249 : xe_code 73 249 = some (.iadd, []) := kg_73_2 (i := 35) rfl
theorem kc_73_250 : xe_code 73 250 = some (.goto 10, [260]) := kg_73_2 (i := 36) rfl
theorem kc_73_253 : xe_code 73 253 = some (.aload_n 0, []) := kg_73_2 (i := 37) rfl
theorem kc_73_254 : xe_code 73 254 = some (.getfield 157, [12, 59, 1006]) := kg_73_2 (i := 38) rfl
theorem kc_73_257 : xe_code 73 257 = some (.iload 6, []) := kg_73_2 (i := 39) rfl
theorem kc_73_259 : xe_code 73 259 = some (.iaload, []) := kg_73_2 (i := 40) rfl
theorem kc_73_260 : xe_code 73 260 = some (.ireturn, []) := kg_73_2 (i := 41) rfl
theorem kc_74_0 : xe_code 74 0 = some (.aload_n 0, []) := kg_74_0 (i := 0) rfl
theorem kc_74_1 : xe_code 74 1 = some (.iconst 0, []) := kg_74_0 (i := 1) rfl
theorem kc_74_2 : xe_code 74 2 = some (.putfield 169, [12, 0, 947]) := kg_74_0 (i := 2) rfl
theorem kc_74_5 : xe_code 74 5 = some (.iload_n 1, []) := kg_74_0 (i := 3) rfl
theorem kc_74_6 : xe_code 74 6 = some (.iconst 0, []) := kg_74_0 (i := 4) rfl
theorem kc_74_7 : xe_code 74 7 = some (.iconst 3, []) := kg_74_0 (i := 5) rfl
theorem kc_74_8 : xe_code 74 8 = some (.invokestatic 173, [11, 3, 1148, 12]) := kg_74_0 (i := 6) rfl
theorem kc_74_11 : xe_code 74 11 = some (.ifCond .ne 10, [21]) := kg_74_0 (i := 7) rfl
theorem kc_74_14 : xe_code 74 14 = some (.aload_n 0, []) := kg_74_0 (i := 8) rfl
theorem kc_74_15 : xe_code 74 15 = some (.bipush (-2), []) := kg_74_0 (i := 9) rfl
theorem kc_74_17 : xe_code 74 17 = some (.invokevirtual 188, [12, 1, 1151, 12]) := kg_74_0 (i := 10) rfl
theorem kc_74_20 : xe_code 74 20 = some (.ireturn, []) := kg_74_0 (i := 11) rfl
theorem kc_74_21 : xe_code 74 21 = some (.aload_n 0, []) := kg_74_0 (i := 12) rfl
theorem kc_74_22 : xe_code 74 22 = some (.getfield 163, [12, 62, 1009]) := kg_74_0 (i := 13) rfl
theorem kc_74_25 : xe_code 74 25 = some (.iconst 2, []) := kg_74_0 (i := 14) rfl
theorem kc_74_26 : xe_code 74 26 = some (.iload_n 1, []) := kg_74_0 (i := 15) rfl
theorem kc_74_27 : xe_code 74 27 = some (.imul, []) := kg_74_0 (i := 16) rfl
theorem kc_74_28 : xe_code 74 28 = some (.iaload, []) := kg_74_0 (i := 17) rfl
theorem kc_74_29 : xe_code 74 29 = some (.ifCond .lt 41, [70]) := kg_74_0 (i := 18) rfl
theorem kc_74_32 : xe_code 74 32 = some (.aload_n 0, []) := kg_74_0 (i := 19) rfl
theorem kc_74_33 : xe_code 74 33 = some (.getfield 163, [12, 62, 1009]) := kg_74_0 (i := 20) rfl
theorem kc_74_36 : xe_code 74 36 = some (.iconst 2, []) := kg_74_0 (i := 21) rfl
theorem kc_74_37 : xe_code 74 37 = some (.iload_n 1, []) := kg_74_0 (i := 22) rfl
theorem kc_74_38 : xe_code 74 38 = some (.imul, []) := kg_74_0 (i := 23) rfl
theorem kc_74_39 : xe_code 74 39 = some (.iconst 1, []) := kg_74_0 (i := 24) rfl
theorem kc_74_40 : xe_code 74 40 = some (.iadd, []) := kg_74_0 (i := 25) rfl
theorem kc_74_41 : xe_code 74 41 = some (.iaload, []) := kg_74_0 (i := 26) rfl
theorem kc_74_42 : xe_code 74 42 = some (.ifCond .lt 28, [70]) := kg_74_0 (i := 27) rfl
theorem kc_74_45 : xe_code 74 45 = some (.aload_n 0, []) := kg_74_0 (i := 28) rfl
theorem kc_74_46 : xe_code 74 46 = some (.getfield 163, [12, 62, 1009]) := kg_74_0 (i := 29) rfl
theorem kc_74_49 : xe_code 74 49 = some (.iconst 2, []) := kg_74_0 (i := 30) rfl
theorem kc_74_50 : xe_code 74 50 = some (.iload_n 1, []) := kg_74_0 (i := 31) rfl
theorem kc_74_51 : xe_code 74 51 = some (.imul, []) := kg_74_0 (i := 32) rfl
theorem kc_74_52 : xe_code 74 52 = some (.iaload, []) := kg_74_0 (i := 33) rfl
theorem kc_74_53 : xe_code 74 53 = some (.aload_n 0, []) := kg_74_0 (i := 34) rfl
theorem kc_74_54 : xe_code 74 54 = some (.getfield 163, [12, 62, 1009]) := kg_74_0 (i := 35) rfl
theorem kc_74_57 : xe_code 74 57 = some (.iconst 2, []) := kg_74_0 (i := 36) rfl
theorem kc_74_58 : xe_code 74 58 = some (.iload_n 1, []) := kg_74_0 (i := 37) rfl
theorem kc_74_59 : xe_code 74 59 = some (.imul, []) := kg_74_0 (i := 38) rfl
theorem kc_74_60 : xe_code 74 60 = some (.iconst 1, []) := kg_74_0 (i := 39) rfl
theorem kc_74_61 : xe_code 74 61 = some (.iadd, []) := kg_74_0 (i := 40) rfl
theorem kc_74_62 : xe_code 74 62 = some (.iaload, []) := kg_74_0 (i := 41) rfl
theorem kc_74_63 : xe_code 74 63 = some (.if_icmp .eq 7, [70]) := kg_74_0 (i := 42) rfl
theorem kc_74_66 : xe_code 74 66 = some (.iconst 1, []) := kg_74_0 (i := 43) rfl
theorem kc_74_67 : xe_code 74 67 = some (.goto 4, [71]) := kg_74_0 (i := 44) rfl
theorem kc_74_70 : xe_code 74 70 = some (.iconst 0, []) := kg_74_0 (i := 45) rfl
theorem kc_74_71 : xe_code 74 71 = some (.ireturn, []) := kg_74_0 (i := 46) rfl
theorem kc_75_0 : xe_code 75 0 = some (.aload_n 0, []) := kg_75_0 (i := 0) rfl
theorem kc_75_1 : xe_code 75 1 = some (.iconst 0, []) := kg_75_0 (i := 1) rfl
theorem kc_75_2 : xe_code 75 2 = some (.putfield 169, [12, 0, 947]) := kg_75_0 (i := 2) rfl
theorem kc_75_5 : xe_code 75 5 = some (.iconst 0, []) := kg_75_0 (i := 3) rfl
theorem kc_75_6 : xe_code 75 6 = some (.istore_n 2, []) := kg_75_0 (i := 4) rfl
theorem kc_75_7 : xe_code 75 7 = some (.iload_n 1, []) := kg_75_0 (i := 5) rfl
theorem kc_75_8 : xe_code 75 8 = some (.tableswitch 198 0 9 #[56, 61, 94, 99, 104, 139, 144, 179, 184, 189], [206, 64, 69, 102, 107, 112, 147, 152, 187, 192, 197]) := kg_75_0 (i := 6) rfl
theorem kc_75_64 : xe_code 75 64 = some (.aload_n 0, []) := kg_75_0 (i := 7) rfl
theorem kc_75_65 : xe_code 75 65 = some (.getfield 213, [12, 1, 948]) := kg_75_0 (i := 8) rfl
theorem kc_75_68 : xe_code 75 68 = some (.ireturn, []) := kg_75_0 (i := 9) rfl
theorem kc_75_69 : xe_code 75 69 = some (.iconst 0, []) := kg_75_0 (i := 10) rfl
theorem kc_75_70 : xe_code 75 70 = some (.istore_n 3, []) := kg_75_0 (i := 11) rfl
theorem kc_75_71 : xe_code 75 71 = some (.iload_n 3, []) := kg_75_0 (i := 12) rfl
theorem kc_75_72 : xe_code 75 72 = some (.bipush 12, []) := kg_75_0 (i := 13) rfl
theorem kc_75_74 : xe_code 75 74 = some (.if_icmp .ge 26, [100]) := kg_75_0 (i := 14) rfl
theorem kc_75_77 : xe_code 75 77 = some (.iload_n 2, []) := kg_75_0 (i := 15) rfl
theorem kc_75_78 : xe_code 75 78 = some (.aload_n 0, []) := kg_75_0 (i := 16) rfl
theorem kc_75_79 : xe_code 75 79 = some (.getfield 37, [12, 11, 958]) := kg_75_0 (i := 17) rfl
theorem kc_75_82 : xe_code 75 82 = some (.iload_n 3, []) := kg_75_0 (i := 18) rfl
theorem kc_75_83 : xe_code 75 83 = some (.iaload, []) := kg_75_0 (i := 19) rfl
theorem kc_75_84 : xe_code 75 84 = some (.ifCond .lt 7, [91]) := kg_75_0 (i := 20) rfl
theorem kc_75_87 : xe_code 75 87 = some (.iconst 1, []) := kg_75_0 (i := 21) rfl
theorem kc_75_88 : xe_code 75 88 = some (.goto 4, [92]) := kg_75_0 (i := 22) rfl
theorem kc_75_91 : xe_code 75 91 = some (.iconst 0, []) := kg_75_0 (i := 23) rfl
theorem kc_75_92 : xe_code 75 92 = some (.iadd, []) := kg_75_0 (i := 24) rfl
theorem kc_75_93 : xe_code 75 93 = some (.istore_n 2, []) := kg_75_0 (i := 25) rfl
theorem kc_75_94 : xe_code 75 94 = some (.iinc 3 1, []) := kg_75_0 (i := 26) rfl
theorem kc_75_97 : xe_code 75 97 = some (.goto (-26), [71]) := kg_75_0 (i := 27) rfl
theorem kc_75_100 : xe_code 75 100 = some (.iload_n 2, []) := kg_75_0 (i := 28) rfl
theorem kc_75_101 : xe_code 75 101 = some (.ireturn, []) := kg_75_0 (i := 29) rfl
theorem kc_75_102 : xe_code 75 102 = some (.aload_n 0, []) := kg_75_0 (i := 30) rfl
theorem kc_75_103 : xe_code 75 103 = some (.getfield 222, [12, 18, 965]) := kg_75_0 (i := 31) rfl
theorem kc_75_106 : xe_code 75 106 = some (.ireturn, []) := kg_75_0 (i := 32) rfl
theorem kc_75_107 : xe_code 75 107 = some (.aload_n 0, []) := kg_75_0 (i := 33) rfl
theorem kc_75_108 : xe_code 75 108 = some (.getfield 225, [12, 23, 970]) := kg_75_0 (i := 34) rfl
theorem kc_75_111 : xe_code 75 111 = some (.ireturn, []) := kg_75_0 (i := 35) rfl
theorem kc_75_112 : xe_code 75 112 = some (.iconst 0, []) := kg_75_0 (i := 36) rfl
theorem kc_75_113 : xe_code 75 113 = some (.istore_n 3, []) := kg_75_0 (i := 37) rfl
theorem kc_75_114 : xe_code 75 114 = some (.iload_n 3, []) := kg_75_0 (i := 38) rfl
theorem kc_75_115 : xe_code 75 115 = some (.aload_n 0, []) := kg_75_0 (i := 39) rfl
theorem kc_75_116 : xe_code 75 116 = some (.getfield 225, [12, 23, 970]) := kg_75_0 (i := 40) rfl
theorem kc_75_119 : xe_code 75 119 = some (.if_icmp .ge 26, [145]) := kg_75_0 (i := 41) rfl
theorem kc_75_122 : xe_code 75 122 = some (.iload_n 2, []) := kg_75_0 (i := 42) rfl
theorem kc_75_123 : xe_code 75 123 = some (.aload_n 0, []) := kg_75_0 (i := 43) rfl
theorem kc_75_124 : xe_code 75 124 = some (.getfield 84, [12, 28, 975]) := kg_75_0 (i := 44) rfl
theorem kc_75_127 : xe_code 75 127 = some (.iload_n 3, []) := kg_75_0 (i := 45) rfl
theorem kc_75_128 : xe_code 75 128 = some (.baload, []) := kg_75_0 (i := 46) rfl
theorem kc_75_129 : xe_code 75 129 = some (.ifCond .eq 7, [136]) := kg_75_0 (i := 47) rfl
theorem kc_75_132 : xe_code 75 132 = some (.iconst 1, []) := kg_75_1 (i := 0) rfl
theorem kc_75_133 : xe_code 75 133 = some (.goto 4, [137]) := kg_75_1 (i := 1) rfl
theorem kc_75_136 : xe_code 75 136 = some (.iconst 0, []) := kg_75_1 (i := 2) rfl
theorem kc_75_137 : xe_code 75 137 = some (.iadd, []) := kg_75_1 (i := 3) rfl
theorem kc_75_138 : xe_code 75 138 = some (.istore_n 2, []) := kg_75_1 (i := 4) rfl
theorem kc_75_139 : xe_code 75 139 = some (.iinc 3 1, []) := kg_75_1 (i := 5) rfl
theorem kc_75_142 : xe_code 75 142 = some (.goto (-28), [114]) := kg_75_1 (i := 6) rfl
theorem kc_75_145 : xe_code 75 145 = some (.iload_n 2, []) := kg_75_1 (i := 7) rfl
theorem kc_75_146 : xe_code 75 146 = some (.ireturn, []) := kg_75_1 (i := 8) rfl
theorem kc_75_147 : xe_code 75 147 = some (.aload_n 0, []) := kg_75_1 (i := 9) rfl
theorem kc_75_148 : xe_code 75 148 = some (.getfield 279, [12, 45, 992]) := kg_75_1 (i := 10) rfl
theorem kc_75_151 : xe_code 75 151 = some (.ireturn, []) := kg_75_1 (i := 11) rfl
theorem kc_75_152 : xe_code 75 152 = some (.iconst 0, []) := kg_75_1 (i := 12) rfl
theorem kc_75_153 : xe_code 75 153 = some (.istore_n 3, []) := kg_75_1 (i := 13) rfl
theorem kc_75_154 : xe_code 75 154 = some (.iload_n 3, []) := kg_75_1 (i := 14) rfl
theorem kc_75_155 : xe_code 75 155 = some (.aload_n 0, []) := kg_75_1 (i := 15) rfl
theorem kc_75_156 : xe_code 75 156 = some (.getfield 279, [12, 45, 992]) := kg_75_1 (i := 16) rfl
theorem kc_75_159 : xe_code 75 159 = some (.if_icmp .ge 26, [185]) := kg_75_1 (i := 17) rfl
theorem kc_75_162 : xe_code 75 162 = some (.iload_n 2, []) := kg_75_1 (i := 18) rfl
theorem kc_75_163 : xe_code 75 163 = some (.aload_n 0, []) := kg_75_1 (i := 19) rfl
theorem kc_75_164 : xe_code 75 164 = some (.getfield 130, [12, 48, 995]) := kg_75_1 (i := 20) rfl
theorem kc_75_167 : xe_code 75 167 = some (.iload_n 3, []) := kg_75_1 (i := 21) rfl
theorem kc_75_168 : xe_code 75 168 = some (.iaload, []) := kg_75_1 (i := 22) rfl
theorem kc_75_169 : xe_code 75 169 = some (.ifCond .le 7, [176]) := kg_75_1 (i := 23) rfl
theorem kc_75_172 : xe_code 75 172 = some (.iconst 1, []) := kg_75_1 (i := 24) rfl
theorem kc_75_173 : xe_code 75 173 = some (.goto 4, [177]) := kg_75_1 (i := 25) rfl
theorem kc_75_176 : xe_code 75 176 = some (.iconst 0, []) := kg_75_1 (i := 26) rfl
theorem kc_75_177 : xe_code 75 177 = some (.iadd, []) := kg_75_1 (i := 27) rfl
theorem kc_75_178 : xe_code 75 178 = some (.istore_n 2, []) := kg_75_1 (i := 28) rfl
theorem kc_75_179 : xe_code 75 179 = some (.iinc 3 1, []) := kg_75_1 (i := 29) rfl
theorem kc_75_182 : xe_code 75 182 = some (.goto (-28), [154]) := kg_75_1 (i := 30) rfl
theorem kc_75_185 : xe_code 75 185 = some (.iload_n 2, []) := kg_75_1 (i := 31) rfl
theorem kc_75_186 : xe_code 75 186 = some (.ireturn, []) := kg_75_1 (i := 32) rfl
theorem kc_75_187 : xe_code 75 187 = some (.aload_n 0, []) := kg_75_1 (i := 33) rfl
theorem kc_75_188 : xe_code 75 188 = some (.getfield 249, [12, 34, 981]) := kg_75_1 (i := 34) rfl
theorem kc_75_191 : xe_code 75 191 = some (.ireturn, []) := kg_75_1 (i := 35) rfl
theorem kc_75_192 : xe_code 75 192 = some (.aload_n 0, []) := kg_75_1 (i := 36) rfl
theorem kc_75_193 : xe_code 75 193 = some (.getfield 314, [12, 56, 1003]) := kg_75_1 (i := 37) rfl
theorem kc_75_196 : xe_code 75 196 = some (.ireturn, []) := kg_75_1 (i := 38) rfl
theorem kc_75_197 : xe_code 75 197 = some (.aload_n 0, []) := kg_75_1 (i := 39) rfl
theorem kc_75_198 : xe_code 75 198 = some (.invokevirtual 311, [69, 0, 1377, 12]) := kg_75_1 (i := 40) rfl
theorem kc_75_201 : xe_code 75 201 = some (.aload_n 0, []) := kg_75_1 (i := 41) rfl
theorem kc_75_202 : xe_code 75 202 = some (.getfield 302, [12, 54, 1001]) := kg_75_1 (i := 42) rfl
theorem kc_75_205 : xe_code 75 205 = some (.ireturn, []) := kg_75_1 (i := 43) rfl
theorem kc_75_206 : xe_code 75 206 = some (.iload_n 1, []) := kg_75_1 (i := 44) rfl
theorem kc_75_207 : xe_code 75 207 = some (.bipush 11, []) := kg_75_1 (i := 45) rfl
theorem kc_75_209 : xe_code 75 209 = some (.bipush 16, []) := kg_75_1 (i := 46) rfl
theorem kc_75_211 : xe_code 75 211 = some (.invokestatic 173, [11, 3, 1148, 12]) := kg_75_1 (i := 47) rfl
theorem kc_75_214 : xe_code 75 214 = some (.ifCond .eq 15, [229]) := kg_75_2 (i := 0) rfl
theorem kc_75_217 : xe_code 75 217 = some (.aload_n 0, []) := kg_75_2 (i := 1) rfl
theorem kc_75_218 : xe_code 75 218 = some (.getfield 87, [12, 29, 976]) := kg_75_2 (i := 2) rfl
theorem kc_75_221 : xe_code 75 221 = some (.iload_n 1, []) := kg_75_2 (i := 3) rfl
theorem kc_75_222 : xe_code 75 222 = some (.bipush 10, []) := kg_75_2 (i := 4) rfl
theorem kc_75_224 : xe_code 75 224 = some (.isub, []) := kg_75_2 (i := 5) rfl
theorem kc_75_225 : xe_code 75 225 = some (.iaload, []) := kg_75_2 (i := 6) rfl
theorem kc_75_226 : xe_code 75 226 = some (.goto 5, [231]) := kg_75_2 (i := 7) rfl
theorem kc_75_229 : xe_code 75 229 = some (.bipush (-9), []) := kg_75_2 (i := 8) rfl
theorem kc_75_231 : xe_code 75 231 = some (.ireturn, []) := kg_75_2 (i := 9) rfl
theorem kc_76_0 : xe_code 76 0 = some (.aload_n 0, []) := kg_76_0 (i := 0) rfl
theorem kc_76_1 : xe_code 76 1 = some (.invokespecial 1, [0, 0, 75, 0]) := kg_76_0 (i := 1) rfl
theorem kc_76_4 : xe_code 76 4 = some (.aload_n 0, []) := kg_76_0 (i := 2) rfl
theorem kc_76_5 : xe_code 76 5 = some (.new 7, [4, 78]) := kg_76_0 (i := 3) rfl
theorem kc_76_8 : xe_code 76 8 = some (.dup, []) := kg_76_0 (i := 4) rfl
theorem kc_76_9 : xe_code 76 9 = some (.invokespecial 9, [77, 0, 80, 4]) := kg_76_0 (i := 5) rfl
theorem kc_76_12 : xe_code 76 12 = some (.putfield 10, [0, 0, 369]) := kg_76_0 (i := 6) rfl
theorem kc_76_15 : xe_code 76 15 = some (.aload_n 0, []) := kg_76_0 (i := 7) rfl
theorem kc_76_16 : xe_code 76 16 = some (.new 16, [9, 196]) := kg_76_0 (i := 8) rfl
theorem kc_76_19 : xe_code 76 19 = some (.dup, []) := kg_76_0 (i := 9) rfl
theorem kc_76_20 : xe_code 76 20 = some (.invokespecial 18, [82, 0, 198, 9]) := kg_76_0 (i := 10) rfl
theorem kc_76_23 : xe_code 76 23 = some (.putfield 19, [0, 1, 370]) := kg_76_0 (i := 11) rfl
theorem kc_76_26 : xe_code 76 26 = some (.aload_n 0, []) := kg_76_0 (i := 12) rfl
theorem kc_76_27 : xe_code 76 27 = some (.new 23, [3, 224]) := kg_76_0 (i := 13) rfl
theorem kc_76_30 : xe_code 76 30 = some (.dup, []) := kg_76_0 (i := 14) rfl
theorem kc_76_31 : xe_code 76 31 = some (.aload_n 0, []) := kg_76_0 (i := 15) rfl
theorem kc_76_32 : xe_code 76 32 = some (.getfield 10, [0, 0, 369]) := kg_76_0 (i := 16) rfl
theorem kc_76_35 : xe_code 76 35 = some (.invokespecial 25, [83, 1, 226, 3]) := kg_76_0 (i := 17) rfl
theorem kc_76_38 : xe_code 76 38 = some (.putfield 28, [0, 2, 371]) := kg_76_0 (i := 18) rfl
theorem kc_76_41 : xe_code 76 41 = some (.aload_n 0, []) := kg_76_0 (i := 19) rfl
theorem kc_76_42 : xe_code 76 42 = some (.new 32, [6, 262]) := kg_76_0 (i := 20) rfl
theorem kc_76_45 : xe_code 76 45 = some (.dup, []) := kg_76_0 (i := 21) rfl
theorem kc_76_46 : xe_code 76 46 = some (.invokespecial 34, [84, 0, 264, 6]) := kg_76_0 (i := 22) rfl
theorem kc_76_49 : xe_code 76 49 = some (.putfield 35, [0, 3, 372]) := kg_76_0 (i := 23) rfl
theorem kc_76_52 : xe_code 76 52 = some (.aload_n 0, []) := kg_76_0 (i := 24) rfl
theorem kc_76_53 : xe_code 76 53 = some (.new 39, [2, 286]) := kg_76_0 (i := 25) rfl
theorem kc_76_56 : xe_code 76 56 = some (.dup, []) := kg_76_0 (i := 26) rfl
theorem kc_76_57 : xe_code 76 57 = some (.invokespecial 41, [85, 0, 288, 2]) := kg_76_0 (i := 27) rfl
theorem kc_76_60 : xe_code 76 60 = some (.putfield 42, [0, 4, 373]) := kg_76_0 (i := 28) rfl
theorem kc_76_63 : xe_code 76 63 = some (.aload_n 0, []) := kg_76_0 (i := 29) rfl
theorem kc_76_64 : xe_code 76 64 = some (.new 46, [5, 306]) := kg_76_0 (i := 30) rfl
theorem kc_76_67 : xe_code 76 67 = some (.dup, []) := kg_76_0 (i := 31) rfl
theorem kc_76_68 : xe_code 76 68 = some (.invokespecial 48, [86, 0, 308, 5]) := kg_76_0 (i := 32) rfl
theorem kc_76_71 : xe_code 76 71 = some (.putfield 49, [0, 5, 374]) := kg_76_0 (i := 33) rfl
theorem kc_76_74 : xe_code 76 74 = some (.aload_n 0, []) := kg_76_0 (i := 34) rfl
theorem kc_76_75 : xe_code 76 75 = some (.bipush 20, []) := kg_76_0 (i := 35) rfl
theorem kc_76_77 : xe_code 76 77 = some (.anewarray 53, [6, 343]) := kg_76_0 (i := 36) rfl
theorem kc_76_80 : xe_code 76 80 = some (.putfield 55, [0, 6, 375]) := kg_76_0 (i := 37) rfl
theorem kc_76_83 : xe_code 76 83 = some (.aload_n 0, []) := kg_76_0 (i := 38) rfl
theorem kc_76_84 : xe_code 76 84 = some (.bipush 7, []) := kg_76_0 (i := 39) rfl
theorem kc_76_86 : xe_code 76 86 = some (.newarray .int, [0, 109]) := kg_76_0 (i := 40) rfl
theorem kc_76_88 : xe_code 76 88 = some (.putfield 59, [0, 7, 376]) := kg_76_0 (i := 41) rfl
theorem kc_76_91 : xe_code 76 91 = some (.iconst 0, []) := kg_76_0 (i := 42) rfl
theorem kc_76_92 : xe_code 76 92 = some (.istore_n 1, []) := kg_76_0 (i := 43) rfl
theorem kc_76_93 : xe_code 76 93 = some (.iload_n 1, []) := kg_76_0 (i := 44) rfl
theorem kc_76_94 : xe_code 76 94 = some (.bipush 20, []) := kg_76_0 (i := 45) rfl
theorem kc_76_96 : xe_code 76 96 = some (.if_icmp .ge 22, [118]) := kg_76_0 (i := 46) rfl
theorem kc_76_99 : xe_code 76 99 = some (.aload_n 0, []) := kg_76_0 (i := 47) rfl
theorem kc_76_100 : xe_code 76 100 = some (.getfield 55, [0, 6, 375]) := kg_76_1 (i := 0) rfl
theorem kc_76_103 : xe_code 76 103 = some (.iload_n 1, []) := kg_76_1 (i := 1) rfl
theorem kc_76_104 : xe_code 76 104 = some (.new 53, [10, 343]) := kg_76_1 (i := 2) rfl
theorem kc_76_107 : xe_code 76 107 = some (.dup, []) := kg_76_1 (i := 3) rfl
theorem kc_76_108 : xe_code 76 108 = some (.invokespecial 63, [87, 0, 346, 10]) := kg_76_1 (i := 4) rfl
theorem kc_76_111 : xe_code 76 111 = some (.aastore, []) := kg_76_1 (i := 5) rfl
theorem kc_76_112 : xe_code 76 112 = some (.iinc 1 1, []) := kg_76_1 (i := 6) rfl
theorem kc_76_115 : xe_code 76 115 = some (.goto (-22), [93]) := kg_76_1 (i := 7) rfl
theorem kc_76_118 : xe_code 76 118 = some (.aload_n 0, []) := kg_76_1 (i := 8) rfl
theorem kc_76_119 : xe_code 76 119 = some (.getfield 19, [0, 1, 370]) := kg_76_1 (i := 9) rfl
theorem kc_76_122 : xe_code 76 122 = some (.bipush 63, []) := kg_76_1 (i := 10) rfl
theorem kc_76_124 : xe_code 76 124 = some (.putfield 64, [9, 3, 212]) := kg_76_1 (i := 11) rfl
theorem kc_76_127 : xe_code 76 127 = some (.return_, []) := kg_76_1 (i := 12) rfl
theorem kc_77_0 : xe_code 77 0 = some (.aload_n 0, []) := kg_77_0 (i := 0) rfl
theorem kc_77_1 : xe_code 77 1 = some (.invokespecial 3, [0, 0, 83, 0]) := kg_77_0 (i := 1) rfl
theorem kc_77_4 : xe_code 77 4 = some (.aload_n 0, []) := kg_77_0 (i := 2) rfl
theorem kc_77_5 : xe_code 77 5 = some (.bipush 6, []) := kg_77_0 (i := 3) rfl
theorem kc_77_7 : xe_code 77 7 = some (.anewarray 9, [3, 84]) := kg_77_0 (i := 4) rfl
theorem kc_77_10 : xe_code 77 10 = some (.putfield 11, [4, 0, 170]) := kg_77_0 (i := 5) rfl
theorem kc_77_13 : xe_code 77 13 = some (.aload_n 0, []) := kg_77_0 (i := 6) rfl
theorem kc_77_14 : xe_code 77 14 = some (.bipush 12, []) := kg_77_0 (i := 7) rfl
theorem kc_77_16 : xe_code 77 16 = some (.anewarray 17, [4, 86]) := kg_77_0 (i := 8) rfl
theorem kc_77_19 : xe_code 77 19 = some (.putfield 19, [4, 1, 172]) := kg_77_0 (i := 9) rfl
theorem kc_77_22 : xe_code 77 22 = some (.aload_n 0, []) := kg_77_0 (i := 10) rfl
theorem kc_77_23 : xe_code 77 23 = some (.bipush 10, []) := kg_77_0 (i := 11) rfl
theorem kc_77_25 : xe_code 77 25 = some (.anewarray 23, [5, 88]) := kg_77_0 (i := 12) rfl
theorem kc_77_28 : xe_code 77 28 = some (.putfield 25, [4, 2, 174]) := kg_77_0 (i := 13) rfl
theorem kc_77_31 : xe_code 77 31 = some (.aload_n 0, []) := kg_77_0 (i := 14) rfl
theorem kc_77_32 : xe_code 77 32 = some (.new 29, [8, 90]) := kg_77_0 (i := 15) rfl
theorem kc_77_35 : xe_code 77 35 = some (.dup, []) := kg_77_0 (i := 16) rfl
theorem kc_77_36 : xe_code 77 36 = some (.iconst 5, []) := kg_77_0 (i := 17) rfl
theorem kc_77_37 : xe_code 77 37 = some (.invokespecial 31, [78, 1, 92, 8]) := kg_77_0 (i := 18) rfl
theorem kc_77_40 : xe_code 77 40 = some (.putfield 34, [4, 3, 175]) := kg_77_0 (i := 19) rfl
theorem kc_77_43 : xe_code 77 43 = some (.aload_n 0, []) := kg_77_0 (i := 20) rfl
theorem kc_77_44 : xe_code 77 44 = some (.new 29, [8, 90]) := kg_77_0 (i := 21) rfl
theorem kc_77_47 : xe_code 77 47 = some (.dup, []) := kg_77_0 (i := 22) rfl
theorem kc_77_48 : xe_code 77 48 = some (.iconst 0, []) := kg_77_0 (i := 23) rfl
theorem kc_77_49 : xe_code 77 49 = some (.invokespecial 31, [78, 1, 92, 8]) := kg_77_0 (i := 24) rfl
theorem kc_77_52 : xe_code 77 52 = some (.putfield 38, [4, 4, 176]) := kg_77_0 (i := 25) rfl
theorem kc_77_55 : xe_code 77 55 = some (.aload_n 0, []) := kg_77_0 (i := 26) rfl
theorem kc_77_56 : xe_code 77 56 = some (.iconst 4, []) := kg_77_0 (i := 27) rfl
theorem kc_77_57 : xe_code 77 57 = some (.putfield 41, [4, 6, 179]) := kg_77_0 (i := 28) rfl
theorem kc_77_60 : xe_code 77 60 = some (.iconst 0, []) := kg_77_0 (i := 29) rfl
theorem kc_77_61 : xe_code 77 61 = some (.istore_n 1, []) := kg_77_0 (i := 30) rfl
theorem kc_77_62 : xe_code 77 62 = some (.iload_n 1, []) := kg_77_0 (i := 31) rfl
theorem kc_77_63 : xe_code 77 63 = some (.bipush 6, []) := kg_77_0 (i := 32) rfl
theorem kc_77_65 : xe_code 77 65 = some (.if_icmp .ge 22, [87]) := kg_77_0 (i := 33) rfl
theorem kc_77_68 : xe_code 77 68 = some (.aload_n 0, []) := kg_77_0 (i := 34) rfl
theorem kc_77_69 : xe_code 77 69 = some (.getfield 11, [4, 0, 170]) := kg_77_0 (i := 35) rfl
theorem kc_77_72 : xe_code 77 72 = some (.iload_n 1, []) := kg_77_0 (i := 36) rfl
theorem kc_77_73 : xe_code 77 73 = some (.new 9, [7, 84]) := kg_77_0 (i := 37) rfl
theorem kc_77_76 : xe_code 77 76 = some (.dup, []) := kg_77_0 (i := 38) rfl
theorem kc_77_77 : xe_code 77 77 = some (.invokespecial 45, [79, 0, 111, 7]) := kg_77_0 (i := 39) rfl
theorem kc_77_80 : xe_code 77 80 = some (.aastore, []) := kg_77_0 (i := 40) rfl
theorem kc_77_81 : xe_code 77 81 = some (.iinc 1 1, []) := kg_77_0 (i := 41) rfl
theorem kc_77_84 : xe_code 77 84 = some (.goto (-22), [62]) := kg_77_0 (i := 42) rfl
theorem kc_77_87 : xe_code 77 87 = some (.iconst 0, []) := kg_77_0 (i := 43) rfl
theorem kc_77_88 : xe_code 77 88 = some (.istore_n 1, []) := kg_77_0 (i := 44) rfl
theorem kc_77_89 : xe_code 77 89 = some (.iload_n 1, []) := kg_77_0 (i := 45) rfl
theorem kc_77_90 : xe_code 77 90 = some (.bipush 12, []) := kg_77_0 (i := 46) rfl
theorem kc_77_92 : xe_code 77 92 = some (.if_icmp .ge 22, [114]) := kg_77_0 (i := 47) rfl
theorem kc_77_95 : xe_code 77 95 = some (.aload_n 0, []) := kg_77_1 (i := 0) rfl
theorem kc_77_96 : xe_code 77 96 = some (.getfield 19, [4, 1, 172]) := kg_77_1 (i := 1) rfl
theorem kc_77_99 : xe_code 77 99 = some (.iload_n 1, []) := kg_77_1 (i := 2) rfl
theorem kc_77_100 : xe_code 77 100 = some (.new 17, [11, 86]) := kg_77_1 (i := 3) rfl
theorem kc_77_103 : xe_code 77 103 = some (.dup, []) := kg_77_1 (i := 4) rfl
theorem kc_77_104 : xe_code 77 104 = some (.invokespecial 46, [80, 0, 126, 11]) := kg_77_1 (i := 5) rfl
theorem kc_77_107 : xe_code 77 107 = some (.aastore, []) := kg_77_1 (i := 6) rfl
theorem kc_77_108 : xe_code 77 108 = some (.iinc 1 1, []) := kg_77_1 (i := 7) rfl
theorem kc_77_111 : xe_code 77 111 = some (.goto (-22), [89]) := kg_77_1 (i := 8) rfl
theorem kc_77_114 : xe_code 77 114 = some (.iconst 0, []) := kg_77_1 (i := 9) rfl
theorem kc_77_115 : xe_code 77 115 = some (.istore_n 1, []) := kg_77_1 (i := 10) rfl
theorem kc_77_116 : xe_code 77 116 = some (.iload_n 1, []) := kg_77_1 (i := 11) rfl
theorem kc_77_117 : xe_code 77 117 = some (.bipush 10, []) := kg_77_1 (i := 12) rfl
theorem kc_77_119 : xe_code 77 119 = some (.if_icmp .ge 22, [141]) := kg_77_1 (i := 13) rfl
theorem kc_77_122 : xe_code 77 122 = some (.aload_n 0, []) := kg_77_1 (i := 14) rfl
theorem kc_77_123 : xe_code 77 123 = some (.getfield 25, [4, 2, 174]) := kg_77_1 (i := 15) rfl
theorem kc_77_126 : xe_code 77 126 = some (.iload_n 1, []) := kg_77_1 (i := 16) rfl
theorem kc_77_127 : xe_code 77 127 = some (.new 23, [1, 88]) := kg_77_1 (i := 17) rfl
theorem kc_77_130 : xe_code 77 130 = some (.dup, []) := kg_77_1 (i := 18) rfl
theorem kc_77_131 : xe_code 77 131 = some (.invokespecial 47, [81, 0, 153, 1]) := kg_77_1 (i := 19) rfl
theorem kc_77_134 : xe_code 77 134 = some (.aastore, []) := kg_77_1 (i := 20) rfl
theorem kc_77_135 : xe_code 77 135 = some (.iinc 1 1, []) := kg_77_1 (i := 21) rfl
theorem kc_77_138 : xe_code 77 138 = some (.goto (-22), [116]) := kg_77_1 (i := 22) rfl
theorem kc_77_141 : xe_code 77 141 = some (.return_, []) := kg_77_1 (i := 23) rfl
theorem kc_78_0 : xe_code 78 0 = some (.aload_n 0, []) := kg_78_0 (i := 0) rfl
theorem kc_78_1 : xe_code 78 1 = some (.invokespecial 3, [0, 0, 95, 0]) := kg_78_0 (i := 1) rfl
theorem kc_78_4 : xe_code 78 4 = some (.aload_n 0, []) := kg_78_0 (i := 2) rfl
theorem kc_78_5 : xe_code 78 5 = some (.sipush 601, []) := kg_78_0 (i := 3) rfl
theorem kc_78_8 : xe_code 78 8 = some (.newarray .int, [0, 109]) := kg_78_0 (i := 4) rfl
theorem kc_78_10 : xe_code 78 10 = some (.putfield 9, [8, 1, 100]) := kg_78_0 (i := 5) rfl
theorem kc_78_13 : xe_code 78 13 = some (.aload_n 0, []) := kg_78_0 (i := 6) rfl
theorem kc_78_14 : xe_code 78 14 = some (.sipush 601, []) := kg_78_0 (i := 7) rfl
theorem kc_78_17 : xe_code 78 17 = some (.newarray .int, [0, 109]) := kg_78_0 (i := 8) rfl
theorem kc_78_19 : xe_code 78 19 = some (.putfield 15, [8, 2, 101]) := kg_78_0 (i := 9) rfl
theorem kc_78_22 : xe_code 78 22 = some (.aload_n 0, []) := kg_78_0 (i := 10) rfl
theorem kc_78_23 : xe_code 78 23 = some (.iload_n 1, []) := kg_78_0 (i := 11) rfl
theorem kc_78_24 : xe_code 78 24 = some (.putfield 18, [8, 0, 99]) := kg_78_0 (i := 12) rfl
theorem kc_78_27 : xe_code 78 27 = some (.aload_n 0, []) := kg_78_0 (i := 13) rfl
theorem kc_78_28 : xe_code 78 28 = some (.getfield 9, [8, 1, 100]) := kg_78_0 (i := 14) rfl
theorem kc_78_31 : xe_code 78 31 = some (.bipush 99, []) := kg_78_0 (i := 15) rfl
theorem kc_78_33 : xe_code 78 33 = some (.invokestatic 22, [1, 2, 96, 0]) := kg_78_0 (i := 16) rfl
theorem kc_78_36 : xe_code 78 36 = some (.aload_n 0, []) := kg_78_0 (i := 17) rfl
theorem kc_78_37 : xe_code 78 37 = some (.getfield 15, [8, 2, 101]) := kg_78_0 (i := 18) rfl
theorem kc_78_40 : xe_code 78 40 = some (.iload_n 1, []) := kg_78_0 (i := 19) rfl
theorem kc_78_41 : xe_code 78 41 = some (.invokestatic 22, [1, 2, 96, 0]) := kg_78_0 (i := 20) rfl
theorem kc_78_44 : xe_code 78 44 = some (.return_, []) := kg_78_0 (i := 21) rfl
theorem kc_79_0 : xe_code 79 0 = some (.aload_n 0, []) := kg_79_0 (i := 0) rfl
theorem kc_79_1 : xe_code 79 1 = some (.invokespecial 3, [0, 0, 114, 0]) := kg_79_0 (i := 1) rfl
theorem kc_79_4 : xe_code 79 4 = some (.aload_n 0, []) := kg_79_0 (i := 2) rfl
theorem kc_79_5 : xe_code 79 5 = some (.iconst 5, []) := kg_79_0 (i := 3) rfl
theorem kc_79_6 : xe_code 79 6 = some (.newarray .int, [0, 109]) := kg_79_0 (i := 4) rfl
theorem kc_79_8 : xe_code 79 8 = some (.dup, []) := kg_79_0 (i := 5) rfl
theorem kc_79_9 : xe_code 79 9 = some (.iconst 0, []) := kg_79_0 (i := 6) rfl
theorem kc_79_10 : xe_code 79 10 = some (.bipush 40, []) := kg_79_0 (i := 7) rfl
theorem kc_79_12 : xe_code 79 12 = some (.iastore, []) := kg_79_0 (i := 8) rfl
theorem kc_79_13 : xe_code 79 13 = some (.dup, []) := kg_79_0 (i := 9) rfl
theorem kc_79_14 : xe_code 79 14 = some (.iconst 1, []) := kg_79_0 (i := 10) rfl
theorem kc_79_15 : xe_code 79 15 = some (.bipush 18, []) := kg_79_0 (i := 11) rfl
theorem kc_79_17 : xe_code 79 17 = some (.iastore, []) := kg_79_0 (i := 12) rfl
theorem kc_79_18 : xe_code 79 18 = some (.dup, []) := kg_79_0 (i := 13) rfl
theorem kc_79_19 : xe_code 79 19 = some (.iconst 2, []) := kg_79_0 (i := 14) rfl
theorem kc_79_20 : xe_code 79 20 = some (.bipush 10, []) := kg_79_0 (i := 15) rfl
theorem kc_79_22 : xe_code 79 22 = some (.iastore, []) := kg_79_0 (i := 16) rfl
theorem kc_79_23 : xe_code 79 23 = some (.dup, []) := kg_79_0 (i := 17) rfl
theorem kc_79_24 : xe_code 79 24 = some (.iconst 3, []) := kg_79_0 (i := 18) rfl
theorem kc_79_25 : xe_code 79 25 = some (.iconst 0, []) := kg_79_0 (i := 19) rfl
theorem kc_79_26 : xe_code 79 26 = some (.iastore, []) := kg_79_0 (i := 20) rfl
theorem kc_79_27 : xe_code 79 27 = some (.dup, []) := kg_79_0 (i := 21) rfl
theorem kc_79_28 : xe_code 79 28 = some (.iconst 4, []) := kg_79_0 (i := 22) rfl
theorem kc_79_29 : xe_code 79 29 = some (.iconst 0, []) := kg_79_0 (i := 23) rfl
theorem kc_79_30 : xe_code 79 30 = some (.iastore, []) := kg_79_0 (i := 24) rfl
theorem kc_79_31 : xe_code 79 31 = some (.putfield 9, [7, 0, 115]) := kg_79_0 (i := 25) rfl
theorem kc_79_34 : xe_code 79 34 = some (.aload_n 0, []) := kg_79_0 (i := 26) rfl
theorem kc_79_35 : xe_code 79 35 = some (.bipush 24, []) := kg_79_0 (i := 27) rfl
theorem kc_79_37 : xe_code 79 37 = some (.newarray .int, [0, 109]) := kg_79_0 (i := 28) rfl
theorem kc_79_39 : xe_code 79 39 = some (.putfield 15, [7, 1, 117]) := kg_79_0 (i := 29) rfl
theorem kc_79_42 : xe_code 79 42 = some (.return_, []) := kg_79_0 (i := 30) rfl
theorem kc_80_0 : xe_code 80 0 = some (.aload_n 0, []) := kg_80_0 (i := 0) rfl
theorem kc_80_1 : xe_code 80 1 = some (.invokespecial 3, [0, 0, 129, 0]) := kg_80_0 (i := 1) rfl
theorem kc_80_4 : xe_code 80 4 = some (.aload_n 0, []) := kg_80_0 (i := 2) rfl
theorem kc_80_5 : xe_code 80 5 = some (.bipush (-9), []) := kg_80_0 (i := 3) rfl
theorem kc_80_7 : xe_code 80 7 = some (.putfield 9, [11, 0, 130]) := kg_80_0 (i := 4) rfl
theorem kc_80_10 : xe_code 80 10 = some (.aload_n 0, []) := kg_80_0 (i := 5) rfl
theorem kc_80_11 : xe_code 80 11 = some (.sipush 600, []) := kg_80_0 (i := 6) rfl
theorem kc_80_14 : xe_code 80 14 = some (.newarray .int, [0, 109]) := kg_80_0 (i := 7) rfl
theorem kc_80_16 : xe_code 80 16 = some (.putfield 15, [11, 4, 139]) := kg_80_0 (i := 8) rfl
theorem kc_80_19 : xe_code 80 19 = some (.return_, []) := kg_80_0 (i := 9) rfl
theorem kc_81_0 : xe_code 81 0 = some (.aload_n 0, []) := kg_81_0 (i := 0) rfl
theorem kc_81_1 : xe_code 81 1 = some (.invokespecial 1, [0, 0, 156, 0]) := kg_81_0 (i := 1) rfl
theorem kc_81_4 : xe_code 81 4 = some (.return_, []) := kg_81_0 (i := 2) rfl
theorem kc_82_0 : xe_code 82 0 = some (.aload_n 0, []) := kg_82_0 (i := 0) rfl
theorem kc_82_1 : xe_code 82 1 = some (.invokespecial 3, [0, 0, 201, 0]) := kg_82_0 (i := 1) rfl
theorem kc_82_4 : xe_code 82 4 = some (.aload_n 0, []) := kg_82_0 (i := 2) rfl
theorem kc_82_5 : xe_code 82 5 = some (.bipush 6, []) := kg_82_0 (i := 3) rfl
theorem kc_82_7 : xe_code 82 7 = some (.newarray .int, [0, 109]) := kg_82_0 (i := 4) rfl
theorem kc_82_9 : xe_code 82 9 = some (.putfield 9, [9, 0, 202]) := kg_82_0 (i := 5) rfl
theorem kc_82_12 : xe_code 82 12 = some (.aload_n 0, []) := kg_82_0 (i := 6) rfl
theorem kc_82_13 : xe_code 82 13 = some (.bipush 12, []) := kg_82_0 (i := 7) rfl
theorem kc_82_15 : xe_code 82 15 = some (.newarray .int, [0, 109]) := kg_82_0 (i := 8) rfl
theorem kc_82_17 : xe_code 82 17 = some (.putfield 15, [9, 1, 205]) := kg_82_0 (i := 9) rfl
theorem kc_82_20 : xe_code 82 20 = some (.return_, []) := kg_82_0 (i := 10) rfl
theorem kc_83_0 : xe_code 83 0 = some (.aload_n 0, []) := kg_83_0 (i := 0) rfl
theorem kc_83_1 : xe_code 83 1 = some (.invokespecial 3, [0, 0, 229, 0]) := kg_83_0 (i := 1) rfl
theorem kc_83_4 : xe_code 83 4 = some (.aload_n 0, []) := kg_83_0 (i := 2) rfl
theorem kc_83_5 : xe_code 83 5 = some (.new 9, [9, 230]) := kg_83_0 (i := 3) rfl
theorem kc_83_8 : xe_code 83 8 = some (.dup, []) := kg_83_0 (i := 4) rfl
theorem kc_83_9 : xe_code 83 9 = some (.invokespecial 11, [82, 0, 231, 9]) := kg_83_0 (i := 5) rfl
theorem kc_83_12 : xe_code 83 12 = some (.putfield 12, [3, 1, 233]) := kg_83_0 (i := 6) rfl
theorem kc_83_15 : xe_code 83 15 = some (.aload_n 0, []) := kg_83_0 (i := 7) rfl
theorem kc_83_16 : xe_code 83 16 = some (.bipush 60, []) := kg_83_0 (i := 8) rfl
theorem kc_83_18 : xe_code 83 18 = some (.newarray .int, [0, 109]) := kg_83_0 (i := 9) rfl
theorem kc_83_20 : xe_code 83 20 = some (.putfield 18, [3, 2, 234]) := kg_83_0 (i := 10) rfl
theorem kc_83_23 : xe_code 83 23 = some (.aload_n 0, []) := kg_83_0 (i := 11) rfl
theorem kc_83_24 : xe_code 83 24 = some (.bipush 60, []) := kg_83_0 (i := 12) rfl
theorem kc_83_26 : xe_code 83 26 = some (.newarray .int, [0, 109]) := kg_83_0 (i := 13) rfl
theorem kc_83_28 : xe_code 83 28 = some (.putfield 22, [3, 3, 235]) := kg_83_0 (i := 14) rfl
theorem kc_83_31 : xe_code 83 31 = some (.aload_n 0, []) := kg_83_0 (i := 15) rfl
theorem kc_83_32 : xe_code 83 32 = some (.bipush 60, []) := kg_83_0 (i := 16) rfl
theorem kc_83_34 : xe_code 83 34 = some (.newarray .int, [0, 109]) := kg_83_0 (i := 17) rfl
theorem kc_83_36 : xe_code 83 36 = some (.putfield 25, [3, 4, 236]) := kg_83_0 (i := 18) rfl
theorem kc_83_39 : xe_code 83 39 = some (.aload_n 0, []) := kg_83_0 (i := 19) rfl
theorem kc_83_40 : xe_code 83 40 = some (.bipush 60, []) := kg_83_0 (i := 20) rfl
theorem kc_83_42 : xe_code 83 42 = some (.newarray .int, [0, 109]) := kg_83_0 (i := 21) rfl
theorem kc_83_44 : xe_code 83 44 = some (.putfield 28, [3, 5, 237]) := kg_83_0 (i := 22) rfl
theorem kc_83_47 : xe_code 83 47 = some (.aload_n 0, []) := kg_83_0 (i := 23) rfl
theorem kc_83_48 : xe_code 83 48 = some (.bipush 64, []) := kg_83_0 (i := 24) rfl
theorem kc_83_50 : xe_code 83 50 = some (.newarray .long, [1, 261]) := kg_83_0 (i := 25) rfl
theorem kc_83_52 : xe_code 83 52 = some (.putfield 31, [3, 6, 238]) := kg_83_0 (i := 26) rfl
theorem kc_83_55 : xe_code 83 55 = some (.aload_n 0, []) := kg_83_0 (i := 27) rfl
theorem kc_83_56 : xe_code 83 56 = some (.aload_n 1, []) := kg_83_0 (i := 28) rfl
theorem kc_83_57 : xe_code 83 57 = some (.putfield 35, [3, 0, 232]) := kg_83_0 (i := 29) rfl
theorem kc_83_60 : xe_code 83 60 = some (.return_, []) := kg_83_0 (i := 30) rfl
theorem kc_84_0 : xe_code 84 0 = some (.aload_n 0, []) := kg_84_0 (i := 0) rfl
theorem kc_84_1 : xe_code 84 1 = some (.invokespecial 3, [0, 0, 267, 0]) := kg_84_0 (i := 1) rfl
theorem kc_84_4 : xe_code 84 4 = some (.aload_n 0, []) := kg_84_0 (i := 2) rfl
theorem kc_84_5 : xe_code 84 5 = some (.bipush 8, []) := kg_84_0 (i := 3) rfl
theorem kc_84_7 : xe_code 84 7 = some (.newarray .long, [1, 261]) := kg_84_0 (i := 4) rfl
theorem kc_84_9 : xe_code 84 9 = some (.putfield 9, [6, 0, 268]) := kg_84_0 (i := 5) rfl
theorem kc_84_12 : xe_code 84 12 = some (.aload_n 0, []) := kg_84_0 (i := 6) rfl
theorem kc_84_13 : xe_code 84 13 = some (.bipush 8, []) := kg_84_0 (i := 7) rfl
theorem kc_84_15 : xe_code 84 15 = some (.newarray .int, [0, 109]) := kg_84_0 (i := 8) rfl
theorem kc_84_17 : xe_code 84 17 = some (.putfield 15, [6, 1, 269]) := kg_84_0 (i := 9) rfl
theorem kc_84_20 : xe_code 84 20 = some (.aload_n 0, []) := kg_84_0 (i := 10) rfl
theorem kc_84_21 : xe_code 84 21 = some (.sipush 6561, []) := kg_84_0 (i := 11) rfl
theorem kc_84_24 : xe_code 84 24 = some (.newarray .int, [0, 109]) := kg_84_0 (i := 12) rfl
theorem kc_84_26 : xe_code 84 26 = some (.putfield 19, [6, 2, 270]) := kg_84_0 (i := 13) rfl
theorem kc_84_29 : xe_code 84 29 = some (.aload_n 0, []) := kg_84_0 (i := 14) rfl
theorem kc_84_30 : xe_code 84 30 = some (.bipush 8, []) := kg_84_0 (i := 15) rfl
theorem kc_84_32 : xe_code 84 32 = some (.newarray .int, [0, 109]) := kg_84_0 (i := 16) rfl
theorem kc_84_34 : xe_code 84 34 = some (.putfield 22, [6, 3, 271]) := kg_84_0 (i := 17) rfl
theorem kc_84_37 : xe_code 84 37 = some (.return_, []) := kg_84_0 (i := 18) rfl
theorem kc_85_0 : xe_code 85 0 = some (.aload_n 0, []) := kg_85_0 (i := 0) rfl
theorem kc_85_1 : xe_code 85 1 = some (.invokespecial 3, [0, 0, 291, 0]) := kg_85_0 (i := 1) rfl
theorem kc_85_4 : xe_code 85 4 = some (.aload_n 0, []) := kg_85_0 (i := 2) rfl
theorem kc_85_5 : xe_code 85 5 = some (.bipush 24, []) := kg_85_0 (i := 3) rfl
theorem kc_85_7 : xe_code 85 7 = some (.newarray .int, [0, 109]) := kg_85_0 (i := 4) rfl
theorem kc_85_9 : xe_code 85 9 = some (.putfield 9, [2, 0, 293]) := kg_85_0 (i := 5) rfl
theorem kc_85_12 : xe_code 85 12 = some (.aload_n 0, []) := kg_85_0 (i := 6) rfl
theorem kc_85_13 : xe_code 85 13 = some (.bipush 24, []) := kg_85_0 (i := 7) rfl
theorem kc_85_15 : xe_code 85 15 = some (.newarray .int, [0, 109]) := kg_85_0 (i := 8) rfl
theorem kc_85_17 : xe_code 85 17 = some (.putfield 15, [2, 1, 294]) := kg_85_0 (i := 9) rfl
theorem kc_85_20 : xe_code 85 20 = some (.aload_n 0, []) := kg_85_0 (i := 10) rfl
theorem kc_85_21 : xe_code 85 21 = some (.bipush 24, []) := kg_85_0 (i := 11) rfl
theorem kc_85_23 : xe_code 85 23 = some (.newarray .int, [0, 109]) := kg_85_0 (i := 12) rfl
theorem kc_85_25 : xe_code 85 25 = some (.putfield 18, [2, 2, 295]) := kg_85_0 (i := 13) rfl
theorem kc_85_28 : xe_code 85 28 = some (.aload_n 0, []) := kg_85_0 (i := 14) rfl
theorem kc_85_29 : xe_code 85 29 = some (.bipush 16, []) := kg_85_0 (i := 15) rfl
theorem kc_85_31 : xe_code 85 31 = some (.newarray .int, [0, 109]) := kg_85_0 (i := 16) rfl
theorem kc_85_33 : xe_code 85 33 = some (.putfield 21, [2, 3, 296]) := kg_85_0 (i := 17) rfl
theorem kc_85_36 : xe_code 85 36 = some (.aload_n 0, []) := kg_85_0 (i := 18) rfl
theorem kc_85_37 : xe_code 85 37 = some (.getfield 18, [2, 2, 295]) := kg_85_0 (i := 19) rfl
theorem kc_85_40 : xe_code 85 40 = some (.iconst 2, []) := kg_85_0 (i := 20) rfl
theorem kc_85_41 : xe_code 85 41 = some (.invokestatic 24, [1, 2, 292, 0]) := kg_85_0 (i := 21) rfl
theorem kc_85_44 : xe_code 85 44 = some (.return_, []) := kg_85_0 (i := 22) rfl
theorem kc_86_0 : xe_code 86 0 = some (.aload_n 0, []) := kg_86_0 (i := 0) rfl
theorem kc_86_1 : xe_code 86 1 = some (.invokespecial 3, [0, 0, 311, 0]) := kg_86_0 (i := 1) rfl
theorem kc_86_4 : xe_code 86 4 = some (.aload_n 0, []) := kg_86_0 (i := 2) rfl
theorem kc_86_5 : xe_code 86 5 = some (.bipush 12, []) := kg_86_0 (i := 3) rfl
theorem kc_86_7 : xe_code 86 7 = some (.newarray .int, [0, 109]) := kg_86_0 (i := 4) rfl
theorem kc_86_9 : xe_code 86 9 = some (.putfield 9, [5, 0, 313]) := kg_86_0 (i := 5) rfl
theorem kc_86_12 : xe_code 86 12 = some (.aload_n 0, []) := kg_86_0 (i := 6) rfl
theorem kc_86_13 : xe_code 86 13 = some (.bipush 12, []) := kg_86_0 (i := 7) rfl
theorem kc_86_15 : xe_code 86 15 = some (.newarray .int, [0, 109]) := kg_86_0 (i := 8) rfl
theorem kc_86_17 : xe_code 86 17 = some (.putfield 15, [5, 1, 314]) := kg_86_0 (i := 9) rfl
theorem kc_86_20 : xe_code 86 20 = some (.aload_n 0, []) := kg_86_0 (i := 10) rfl
theorem kc_86_21 : xe_code 86 21 = some (.bipush 12, []) := kg_86_0 (i := 11) rfl
theorem kc_86_23 : xe_code 86 23 = some (.newarray .int, [0, 109]) := kg_86_0 (i := 12) rfl
theorem kc_86_25 : xe_code 86 25 = some (.putfield 18, [5, 2, 315]) := kg_86_0 (i := 13) rfl
theorem kc_86_28 : xe_code 86 28 = some (.aload_n 0, []) := kg_86_0 (i := 14) rfl
theorem kc_86_29 : xe_code 86 29 = some (.bipush 12, []) := kg_86_0 (i := 15) rfl
theorem kc_86_31 : xe_code 86 31 = some (.newarray .int, [0, 109]) := kg_86_0 (i := 16) rfl
theorem kc_86_33 : xe_code 86 33 = some (.putfield 21, [5, 3, 316]) := kg_86_0 (i := 17) rfl
theorem kc_86_36 : xe_code 86 36 = some (.aload_n 0, []) := kg_86_0 (i := 18) rfl
theorem kc_86_37 : xe_code 86 37 = some (.iconst 4, []) := kg_86_0 (i := 19) rfl
theorem kc_86_38 : xe_code 86 38 = some (.newarray .int, [0, 109]) := kg_86_0 (i := 20) rfl
theorem kc_86_40 : xe_code 86 40 = some (.putfield 24, [5, 4, 317]) := kg_86_0 (i := 21) rfl
theorem kc_86_43 : xe_code 86 43 = some (.aload_n 0, []) := kg_86_0 (i := 22) rfl
theorem kc_86_44 : xe_code 86 44 = some (.iconst 4, []) := kg_86_0 (i := 23) rfl
theorem kc_86_45 : xe_code 86 45 = some (.newarray .int, [0, 109]) := kg_86_0 (i := 24) rfl
theorem kc_86_47 : xe_code 86 47 = some (.putfield 27, [5, 5, 318]) := kg_86_0 (i := 25) rfl
theorem kc_86_50 : xe_code 86 50 = some (.aload_n 0, []) := kg_86_0 (i := 26) rfl
theorem kc_86_51 : xe_code 86 51 = some (.iconst 4, []) := kg_86_0 (i := 27) rfl
theorem kc_86_52 : xe_code 86 52 = some (.newarray .int, [0, 109]) := kg_86_0 (i := 28) rfl
theorem kc_86_54 : xe_code 86 54 = some (.putfield 30, [5, 6, 319]) := kg_86_0 (i := 29) rfl
theorem kc_86_57 : xe_code 86 57 = some (.aload_n 0, []) := kg_86_0 (i := 30) rfl
theorem kc_86_58 : xe_code 86 58 = some (.getfield 30, [5, 6, 319]) := kg_86_0 (i := 31) rfl
theorem kc_86_61 : xe_code 86 61 = some (.bipush (-9), []) := kg_86_0 (i := 32) rfl
theorem kc_86_63 : xe_code 86 63 = some (.invokestatic 33, [1, 2, 312, 0]) := kg_86_0 (i := 33) rfl
theorem kc_86_66 : xe_code 86 66 = some (.return_, []) := kg_86_0 (i := 34) rfl
theorem kc_87_0 : xe_code 87 0 = some (.aload_n 0, []) := kg_87_0 (i := 0) rfl
theorem kc_87_1 : xe_code 87 1 = some (.invokespecial 1, [0, 0, 349, 0]) := kg_87_0 (i := 1) rfl
theorem kc_87_4 : xe_code 87 4 = some (.return_, []) := kg_87_0 (i := 2) rfl
theorem kc_88_0 : xe_code 88 0 = some (.iload_n 1, []) := kg_88_0 (i := 0) rfl
theorem kc_88_1 : xe_code 88 1 = some (.invokestatic 68, [89, 1, 404, 0]) := kg_88_0 (i := 1) rfl
theorem kc_88_4 : xe_code 88 4 = some (.ifCond .ne 9, [13]) := kg_88_0 (i := 2) rfl
theorem kc_88_7 : xe_code 88 7 = some (.aload_n 0, []) := kg_88_0 (i := 3) rfl
theorem kc_88_8 : xe_code 88 8 = some (.iconst (-1), []) := kg_88_0 (i := 4) rfl
theorem kc_88_9 : xe_code 88 9 = some (.invokevirtual 72, [90, 1, 407, 0]) := kg_88_0 (i := 5) rfl
theorem kc_88_12 : xe_code 88 12 = some (.ireturn, []) := kg_88_0 (i := 6) rfl
theorem kc_88_13 : xe_code 88 13 = some (.iload_n 2, []) := kg_88_0 (i := 7) rfl
theorem kc_88_14 : xe_code 88 14 = some (.ifCond .lt 8, [22]) := kg_88_0 (i := 8) rfl
theorem kc_88_17 : xe_code 88 17 = some (.iload_n 2, []) := kg_88_0 (i := 9) rfl
theorem kc_88_18 : xe_code 88 18 = some (.iconst 5, []) := kg_88_0 (i := 10) rfl
theorem kc_88_19 : xe_code 88 19 = some (.if_icmp .le 10, [29]) := kg_88_0 (i := 11) rfl
theorem kc_88_22 : xe_code 88 22 = some (.aload_n 0, []) := kg_88_0 (i := 12) rfl
theorem kc_88_23 : xe_code 88 23 = some (.bipush (-2), []) := kg_88_0 (i := 13) rfl
theorem kc_88_25 : xe_code 88 25 = some (.invokevirtual 72, [90, 1, 407, 0]) := kg_88_0 (i := 14) rfl
theorem kc_88_28 : xe_code 88 28 = some (.ireturn, []) := kg_88_0 (i := 15) rfl
theorem kc_88_29 : xe_code 88 29 = some (.iload_n 3, []) := kg_88_0 (i := 16) rfl
theorem kc_88_30 : xe_code 88 30 = some (.getstatic 76, [1, 411]) := kg_88_0 (i := 17) rfl
theorem kc_88_33 : xe_code 88 33 = some (.iload_n 2, []) := kg_88_0 (i := 18) rfl
theorem kc_88_34 : xe_code 88 34 = some (.iaload, []) := kg_88_0 (i := 19) rfl
theorem kc_88_35 : xe_code 88 35 = some (.if_icmp .ge 10, [45]) := kg_88_0 (i := 20) rfl
theorem kc_88_38 : xe_code 88 38 = some (.aload_n 0, []) := kg_88_0 (i := 21) rfl
theorem kc_88_39 : xe_code 88 39 = some (.bipush (-4), []) := kg_88_0 (i := 22) rfl
theorem kc_88_41 : xe_code 88 41 = some (.invokevirtual 72, [90, 1, 407, 0]) := kg_88_0 (i := 23) rfl
theorem kc_88_44 : xe_code 88 44 = some (.ireturn, []) := kg_88_0 (i := 24) rfl
theorem kc_88_45 : xe_code 88 45 = some (.iload_n 3, []) := kg_88_0 (i := 25) rfl
theorem kc_88_46 : xe_code 88 46 = some (.getstatic 79, [2, 413]) := kg_88_0 (i := 26) rfl
theorem kc_88_49 : xe_code 88 49 = some (.iload_n 2, []) := kg_88_0 (i := 27) rfl
theorem kc_88_50 : xe_code 88 50 = some (.iaload, []) := kg_88_0 (i := 28) rfl
theorem kc_88_51 : xe_code 88 51 = some (.if_icmp .le 10, [61]) := kg_88_0 (i := 29) rfl
theorem kc_88_54 : xe_code 88 54 = some (.aload_n 0, []) := kg_88_0 (i := 30) rfl
theorem kc_88_55 : xe_code 88 55 = some (.bipush (-6), []) := kg_88_0 (i := 31) rfl
theorem kc_88_57 : xe_code 88 57 = some (.invokevirtual 72, [90, 1, 407, 0]) := kg_88_0 (i := 32) rfl
theorem kc_88_60 : xe_code 88 60 = some (.ireturn, []) := kg_88_0 (i := 33) rfl
theorem kc_88_61 : xe_code 88 61 = some (.iload_n 2, []) := kg_88_0 (i := 34) rfl
theorem kc_88_62 : xe_code 88 62 = some (.iconst 5, []) := kg_88_0 (i := 35) rfl
theorem kc_88_63 : xe_code 88 63 = some (.if_icmp .ne 27, [90]) := kg_88_0 (i := 36) rfl
theorem kc_88_66 : xe_code 88 66 = some (.aload_n 0, []) := kg_88_0 (i := 37) rfl
theorem kc_88_67 : xe_code 88 67 = some (.getfield 19, [0, 1, 370]) := kg_88_0 (i := 38) rfl
theorem kc_88_70 : xe_code 88 70 = some (.getfield 82, [9, 0, 203]) := kg_88_0 (i := 39) rfl
theorem kc_88_73 : xe_code 88 73 = some (.iload_n 1, []) := kg_88_0 (i := 40) rfl
theorem kc_88_74 : xe_code 88 74 = some (.iaload, []) := kg_88_0 (i := 41) rfl
theorem kc_88_75 : xe_code 88 75 = some (.istore 4, []) := kg_88_0 (i := 42) rfl
theorem kc_88_77 : xe_code 88 77 = some (.aload_n 0, []) := kg_88_0 (i := 43) rfl
theorem kc_88_78 : xe_code 88 78 = some (.getfield 19, [0, 1, 370]) := kg_88_0 (i := 44) rfl
theorem kc_88_81 : xe_code 88 81 = some (.getfield 82, [9, 0, 203]) := kg_88_0 (i := 45) rfl
theorem kc_88_84 : xe_code 88 84 = some (.iload_n 1, []) := kg_88_0 (i := 46) rfl
theorem kc_88_85 : xe_code 88 85 = some (.iload_n 3, []) := kg_88_0 (i := 47) rfl
theorem kc_88_86 : xe_code 88 86 = some (.iastore, []) := kg_88_1 (i := 0) rfl
theorem kc_88_87 : xe_code 88 87 = some (.iload 4, []) := kg_88_1 (i := 1) rfl
theorem kc_88_89 : xe_code 88 89 = some (.ireturn, []) := kg_88_1 (i := 2) rfl
theorem kc_88_90 : xe_code 88 90 = some (.aload_n 0, []) := kg_88_1 (i := 3) rfl
theorem kc_88_91 : xe_code 88 91 = some (.getfield 28, [0, 2, 371]) := kg_88_1 (i := 4) rfl
theorem kc_88_94 : xe_code 88 94 = some (.invokevirtual 85, [91, 0, 415, 3]) := kg_88_1 (i := 5) rfl
theorem kc_88_97 : xe_code 88 97 = some (.aload_n 0, []) := kg_88_1 (i := 6) rfl
theorem kc_88_98 : xe_code 88 98 = some (.getfield 10, [0, 0, 369]) := kg_88_1 (i := 7) rfl
theorem kc_88_101 : xe_code 88 101 = some (.iload_n 1, []) := kg_88_1 (i := 8) rfl
theorem kc_88_102 : xe_code 88 102 = some (.iload_n 2, []) := kg_88_1 (i := 9) rfl
theorem kc_88_103 : xe_code 88 103 = some (.iload_n 3, []) := kg_88_1 (i := 10) rfl
theorem kc_88_104 : xe_code 88 104 = some (.invokevirtual 88, [92, 3, 419, 4]) := kg_88_1 (i := 11) rfl
theorem kc_88_107 : xe_code 88 107 = some (.ireturn, []) := kg_88_1 (i := 12) rfl
theorem kc_89_0 : xe_code 89 0 = some (.iload_n 0, []) := kg_89_0 (i := 0) rfl
theorem kc_89_1 : xe_code 89 1 = some (.ifCond .lt 13, [14]) := kg_89_0 (i := 1) rfl
theorem kc_89_4 : xe_code 89 4 = some (.iload_n 0, []) := kg_89_0 (i := 2) rfl
theorem kc_89_5 : xe_code 89 5 = some (.bipush 6, []) := kg_89_0 (i := 3) rfl
theorem kc_89_7 : xe_code 89 7 = some (.if_icmp .ge 7, [14]) := kg_89_0 (i := 4) rfl
theorem kc_89_10 : xe_code 89 10 = some (.iconst 1, []) := kg_89_0 (i := 5) rfl
theorem kc_89_11 : xe_code 89 11 = some (.goto 4, [15]) := kg_89_0 (i := 6) rfl
theorem kc_89_14 : xe_code 89 14 = some (.iconst 0, []) := kg_89_0 (i := 7) rfl
theorem kc_89_15 : xe_code 89 15 = some (.ireturn, []) := kg_89_0 (i := 8) rfl
theorem kc_90_0 : xe_code 90 0 = some (.iload_n 1, []) := kg_90_0 (i := 0) rfl
theorem kc_90_1 : xe_code 90 1 = some (.ineg, []) := kg_90_0 (i := 1) rfl
theorem kc_90_2 : xe_code 90 2 = some (.istore_n 2, []) := kg_90_0 (i := 2) rfl
theorem kc_90_3 : xe_code 90 3 = some (.iload_n 2, []) := kg_90_0 (i := 3) rfl
theorem kc_90_4 : xe_code 90 4 = some (.ifCond .lt 22, [26]) := kg_90_0 (i := 4) rfl
theorem kc_90_7 : xe_code 90 7 = some (.iload_n 2, []) := kg_90_0 (i := 5) rfl
theorem kc_90_8 : xe_code 90 8 = some (.aload_n 0, []) := kg_90_0 (i := 6) rfl
theorem kc_90_9 : xe_code 90 9 = some (.getfield 59, [0, 7, 376]) := kg_90_0 (i := 7) rfl
theorem kc_90_12 : xe_code 90 12 = some (.arraylength, []) := kg_90_0 (i := 8) rfl
theorem kc_90_13 : xe_code 90 13 = some (.if_icmp .ge 13, [26]) := kg_90_0 (i := 9) rfl
theorem kc_90_16 : xe_code 90 16 = some (.aload_n 0, []) := kg_90_0 (i := 10) rfl
theorem kc_90_17 : xe_code 90 17 = some (.getfield 59, [0, 7, 376]) := kg_90_0 (i := 11) rfl
theorem kc_90_20 : xe_code 90 20 = some (.iload_n 2, []) := kg_90_0 (i := 12) rfl
theorem kc_90_21 : xe_code 90 21 = some (.dup2, []) := kg_90_0 (i := 13) rfl
theorem kc_90_22 : xe_code 90 22 = some (.iaload, []) := kg_90_0 (i := 14) rfl
theorem kc_90_23 : xe_code 90 23 = some (.iconst 1, []) := kg_90_0 (i := 15) rfl
theorem kc_90_24 : xe_code 90 24 = some (.iadd, []) := kg_90_0 (i := 16) rfl
theorem kc_90_25 : xe_code 90 25 = some (.iastore, []) := kg_90_0 (i := 17) rfl
theorem kc_90_26 : xe_code 90 26 = some (.iload_n 1, []) := kg_90_0 (i := 18) rfl
theorem kc_90_27 : xe_code 90 27 = some (.ireturn, []) := kg_90_0 (i := 19) rfl
theorem kc_91_0 : xe_code 91 0 = some (.aload_n 0, []) := kg_91_0 (i := 0) rfl
theorem kc_91_1 : xe_code 91 1 = some (.lconst 0, []) := kg_91_0 (i := 1) rfl
theorem kc_91_2 : xe_code 91 2 = some (.putfield 39, [3, 7, 239]) := kg_91_0 (i := 2) rfl
theorem kc_91_5 : xe_code 91 5 = some (.return_, []) := kg_91_0 (i := 3) rfl
theorem kc_92_0 : xe_code 92 0 = some (.iload_n 1, []) := kg_92_0 (i := 0) rfl
theorem kc_92_1 : xe_code 92 1 = some (.invokestatic 48, [89, 1, 423, 0]) := kg_92_0 (i := 1) rfl
theorem kc_92_4 : xe_code 92 4 = some (.ifCond .eq 17, [21]) := kg_92_0 (i := 2) rfl
theorem kc_92_7 : xe_code 92 7 = some (.aload_n 0, []) := kg_92_0 (i := 3) rfl
theorem kc_92_8 : xe_code 92 8 = some (.getfield 11, [4, 0, 170]) := kg_92_0 (i := 4) rfl
theorem kc_92_11 : xe_code 92 11 = some (.iload_n 1, []) := kg_92_0 (i := 5) rfl
theorem kc_92_12 : xe_code 92 12 = some (.aaload, []) := kg_92_0 (i := 6) rfl
theorem kc_92_13 : xe_code 92 13 = some (.iload_n 2, []) := kg_92_0 (i := 7) rfl
theorem kc_92_14 : xe_code 92 14 = some (.iload_n 3, []) := kg_92_0 (i := 8) rfl
theorem kc_92_15 : xe_code 92 15 = some (.invokevirtual 52, [93, 2, 424, 7]) := kg_92_0 (i := 9) rfl
theorem kc_92_18 : xe_code 92 18 = some (.goto 4, [22]) := kg_92_0 (i := 10) rfl
theorem kc_92_21 : xe_code 92 21 = some (.iconst 0, []) := kg_92_0 (i := 11) rfl
theorem kc_92_22 : xe_code 92 22 = some (.ireturn, []) := kg_92_0 (i := 12) rfl
theorem kc_93_0 : xe_code 93 0 = some (.iload_n 1, []) := kg_93_0 (i := 0) rfl
theorem kc_93_1 : xe_code 93 1 = some (.ifCond .lt 8, [9]) := kg_93_0 (i := 1) rfl
theorem kc_93_4 : xe_code 93 4 = some (.iload_n 1, []) := kg_93_0 (i := 2) rfl
theorem kc_93_5 : xe_code 93 5 = some (.iconst 5, []) := kg_93_0 (i := 3) rfl
theorem kc_93_6 : xe_code 93 6 = some (.if_icmp .lt 5, [11]) := kg_93_0 (i := 4) rfl
theorem kc_93_9 : xe_code 93 9 = some (.iconst 0, []) := kg_93_0 (i := 5) rfl
theorem kc_93_10 : xe_code 93 10 = some (.ireturn, []) := kg_93_0 (i := 6) rfl
theorem kc_93_11 : xe_code 93 11 = some (.aload_n 0, []) := kg_93_0 (i := 7) rfl
theorem kc_93_12 : xe_code 93 12 = some (.getfield 9, [7, 0, 115]) := kg_93_0 (i := 8) rfl
theorem kc_93_15 : xe_code 93 15 = some (.iload_n 1, []) := kg_93_0 (i := 9) rfl
theorem kc_93_16 : xe_code 93 16 = some (.iaload, []) := kg_93_0 (i := 10) rfl
theorem kc_93_17 : xe_code 93 17 = some (.istore_n 3, []) := kg_93_0 (i := 11) rfl
theorem kc_93_18 : xe_code 93 18 = some (.aload_n 0, []) := kg_93_0 (i := 12) rfl
theorem kc_93_19 : xe_code 93 19 = some (.getfield 9, [7, 0, 115]) := kg_93_0 (i := 13) rfl
theorem kc_93_22 : xe_code 93 22 = some (.iload_n 1, []) := kg_93_0 (i := 14) rfl
theorem kc_93_23 : xe_code 93 23 = some (.iload_n 2, []) := kg_93_0 (i := 15) rfl
theorem kc_93_24 : xe_code 93 24 = some (.iastore, []) := kg_93_0 (i := 16) rfl
theorem kc_93_25 : xe_code 93 25 = some (.iload_n 3, []) := kg_93_0 (i := 17) rfl
theorem kc_93_26 : xe_code 93 26 = some (.ireturn, []) := kg_93_0 (i := 18) rfl
theorem kc_94_0 : xe_code 94 0 = some (.iload_n 1, []) := kg_94_0 (i := 0) rfl
theorem kc_94_1 : xe_code 94 1 = some (.invokestatic 68, [89, 1, 404, 0]) := kg_94_0 (i := 1) rfl
theorem kc_94_4 : xe_code 94 4 = some (.ifCond .eq 13, [17]) := kg_94_0 (i := 2) rfl
theorem kc_94_7 : xe_code 94 7 = some (.iload_n 2, []) := kg_94_0 (i := 3) rfl
theorem kc_94_8 : xe_code 94 8 = some (.ifCond .lt 9, [17]) := kg_94_0 (i := 4) rfl
theorem kc_94_11 : xe_code 94 11 = some (.iload_n 2, []) := kg_94_0 (i := 5) rfl
theorem kc_94_12 : xe_code 94 12 = some (.bipush 24, []) := kg_94_0 (i := 6) rfl
theorem kc_94_14 : xe_code 94 14 = some (.if_icmp .lt 9, [23]) := kg_94_0 (i := 7) rfl
theorem kc_94_17 : xe_code 94 17 = some (.aload_n 0, []) := kg_94_0 (i := 8) rfl
theorem kc_94_18 : xe_code 94 18 = some (.iconst (-1), []) := kg_94_0 (i := 9) rfl
theorem kc_94_19 : xe_code 94 19 = some (.invokevirtual 72, [90, 1, 407, 0]) := kg_94_0 (i := 10) rfl
theorem kc_94_22 : xe_code 94 22 = some (.ireturn, []) := kg_94_0 (i := 11) rfl
theorem kc_94_23 : xe_code 94 23 = some (.iload_n 3, []) := kg_94_0 (i := 12) rfl
theorem kc_94_24 : xe_code 94 24 = some (.ifCond .ge 10, [34]) := kg_94_0 (i := 13) rfl
theorem kc_94_27 : xe_code 94 27 = some (.aload_n 0, []) := kg_94_0 (i := 14) rfl
theorem kc_94_28 : xe_code 94 28 = some (.bipush (-4), []) := kg_94_0 (i := 15) rfl
theorem kc_94_30 : xe_code 94 30 = some (.invokevirtual 72, [90, 1, 407, 0]) := kg_94_0 (i := 16) rfl
theorem kc_94_33 : xe_code 94 33 = some (.ireturn, []) := kg_94_0 (i := 17) rfl
theorem kc_94_34 : xe_code 94 34 = some (.iload_n 3, []) := kg_94_0 (i := 18) rfl
theorem kc_94_35 : xe_code 94 35 = some (.sipush 999, []) := kg_94_0 (i := 19) rfl
theorem kc_94_38 : xe_code 94 38 = some (.if_icmp .le 10, [48]) := kg_94_0 (i := 20) rfl
theorem kc_94_41 : xe_code 94 41 = some (.aload_n 0, []) := kg_94_0 (i := 21) rfl
theorem kc_94_42 : xe_code 94 42 = some (.bipush (-6), []) := kg_94_0 (i := 22) rfl
theorem kc_94_44 : xe_code 94 44 = some (.invokevirtual 72, [90, 1, 407, 0]) := kg_94_0 (i := 23) rfl
theorem kc_94_47 : xe_code 94 47 = some (.ireturn, []) := kg_94_0 (i := 24) rfl
theorem kc_94_48 : xe_code 94 48 = some (.aload_n 0, []) := kg_94_0 (i := 25) rfl
theorem kc_94_49 : xe_code 94 49 = some (.getfield 28, [0, 2, 371]) := kg_94_0 (i := 26) rfl
theorem kc_94_52 : xe_code 94 52 = some (.invokevirtual 85, [91, 0, 415, 3]) := kg_94_0 (i := 27) rfl
theorem kc_94_55 : xe_code 94 55 = some (.aload_n 0, []) := kg_94_0 (i := 28) rfl
theorem kc_94_56 : xe_code 94 56 = some (.getfield 10, [0, 0, 369]) := kg_94_0 (i := 29) rfl
theorem kc_94_59 : xe_code 94 59 = some (.getfield 92, [4, 0, 171]) := kg_94_0 (i := 30) rfl
theorem kc_94_62 : xe_code 94 62 = some (.iload_n 1, []) := kg_94_0 (i := 31) rfl
theorem kc_94_63 : xe_code 94 63 = some (.aaload, []) := kg_94_0 (i := 32) rfl
theorem kc_94_64 : xe_code 94 64 = some (.getfield 95, [7, 1, 118]) := kg_94_0 (i := 33) rfl
theorem kc_94_67 : xe_code 94 67 = some (.astore 4, []) := kg_94_0 (i := 34) rfl
theorem kc_94_69 : xe_code 94 69 = some (.aload 4, []) := kg_94_0 (i := 35) rfl
theorem kc_94_71 : xe_code 94 71 = some (.iload_n 2, []) := kg_94_0 (i := 36) rfl
theorem kc_94_72 : xe_code 94 72 = some (.iaload, []) := kg_94_0 (i := 37) rfl
theorem kc_94_73 : xe_code 94 73 = some (.istore 5, []) := kg_94_0 (i := 38) rfl
theorem kc_94_75 : xe_code 94 75 = some (.aload 4, []) := kg_94_0 (i := 39) rfl
theorem kc_94_77 : xe_code 94 77 = some (.iload_n 2, []) := kg_94_0 (i := 40) rfl
theorem kc_94_78 : xe_code 94 78 = some (.iload_n 3, []) := kg_94_0 (i := 41) rfl
theorem kc_94_79 : xe_code 94 79 = some (.iastore, []) := kg_94_0 (i := 42) rfl
theorem kc_94_80 : xe_code 94 80 = some (.iload 5, []) := kg_94_0 (i := 43) rfl
theorem kc_94_82 : xe_code 94 82 = some (.ireturn, []) := kg_94_0 (i := 44) rfl
theorem kc_95_0 : xe_code 95 0 = some (.iload_n 2, []) := kg_95_0 (i := 0) rfl
theorem kc_95_1 : xe_code 95 1 = some (.ifCond .eq 15, [16]) := kg_95_0 (i := 1) rfl
theorem kc_95_4 : xe_code 95 4 = some (.iload_n 2, []) := kg_95_0 (i := 2) rfl
theorem kc_95_5 : xe_code 95 5 = some (.iconst 1, []) := kg_95_0 (i := 3) rfl
theorem kc_95_6 : xe_code 95 6 = some (.if_icmp .eq 10, [16]) := kg_95_0 (i := 4) rfl
theorem kc_95_9 : xe_code 95 9 = some (.aload_n 0, []) := kg_95_0 (i := 5) rfl
theorem kc_95_10 : xe_code 95 10 = some (.bipush (-2), []) := kg_95_0 (i := 6) rfl
theorem kc_95_12 : xe_code 95 12 = some (.invokevirtual 100, [96, 1, 436, 0]) := kg_95_0 (i := 7) rfl
theorem kc_95_15 : xe_code 95 15 = some (.ireturn, []) := kg_95_0 (i := 8) rfl
theorem kc_95_16 : xe_code 95 16 = some (.iload_n 2, []) := kg_95_0 (i := 9) rfl
theorem kc_95_17 : xe_code 95 17 = some (.ifCond .ne 8, [25]) := kg_95_0 (i := 10) rfl
theorem kc_95_20 : xe_code 95 20 = some (.bipush (-20), []) := kg_95_0 (i := 11) rfl
theorem kc_95_22 : xe_code 95 22 = some (.goto 4, [26]) := kg_95_0 (i := 12) rfl
theorem kc_95_25 : xe_code 95 25 = some (.iconst 0, []) := kg_95_0 (i := 13) rfl
theorem kc_95_26 : xe_code 95 26 = some (.istore 4, []) := kg_95_0 (i := 14) rfl
theorem kc_95_28 : xe_code 95 28 = some (.iload_n 2, []) := kg_95_0 (i := 15) rfl
theorem kc_95_29 : xe_code 95 29 = some (.ifCond .ne 8, [37]) := kg_95_0 (i := 16) rfl
theorem kc_95_32 : xe_code 95 32 = some (.bipush 30, []) := kg_95_0 (i := 17) rfl
theorem kc_95_34 : xe_code 95 34 = some (.goto 5, [39]) := kg_95_0 (i := 18) rfl
theorem kc_95_37 : xe_code 95 37 = some (.bipush 20, []) := kg_95_0 (i := 19) rfl
theorem kc_95_39 : xe_code 95 39 = some (.istore 5, []) := kg_95_0 (i := 20) rfl
theorem kc_95_41 : xe_code 95 41 = some (.iload_n 1, []) := kg_95_0 (i := 21) rfl
theorem kc_95_42 : xe_code 95 42 = some (.ifCond .lt 9, [51]) := kg_95_0 (i := 22) rfl
theorem kc_95_45 : xe_code 95 45 = some (.iload_n 3, []) := kg_95_0 (i := 23) rfl
theorem kc_95_46 : xe_code 95 46 = some (.iload 4, []) := kg_95_0 (i := 24) rfl
theorem kc_95_48 : xe_code 95 48 = some (.if_icmp .ge 10, [58]) := kg_95_0 (i := 25) rfl
theorem kc_95_51 : xe_code 95 51 = some (.aload_n 0, []) := kg_95_0 (i := 26) rfl
theorem kc_95_52 : xe_code 95 52 = some (.bipush (-4), []) := kg_95_0 (i := 27) rfl
theorem kc_95_54 : xe_code 95 54 = some (.invokevirtual 100, [96, 1, 436, 0]) := kg_95_0 (i := 28) rfl
theorem kc_95_57 : xe_code 95 57 = some (.ireturn, []) := kg_95_0 (i := 29) rfl
theorem kc_95_58 : xe_code 95 58 = some (.iload_n 1, []) := kg_95_0 (i := 30) rfl
theorem kc_95_59 : xe_code 95 59 = some (.sipush 600, []) := kg_95_0 (i := 31) rfl
theorem kc_95_62 : xe_code 95 62 = some (.if_icmp .ge 15, [77]) := kg_95_0 (i := 32) rfl
theorem kc_95_65 : xe_code 95 65 = some (.iload_n 3, []) := kg_95_0 (i := 33) rfl
theorem kc_95_66 : xe_code 95 66 = some (.iload 5, []) := kg_95_0 (i := 34) rfl
theorem kc_95_68 : xe_code 95 68 = some (.if_icmp .le 16, [84]) := kg_95_0 (i := 35) rfl
theorem kc_95_71 : xe_code 95 71 = some (.iload_n 3, []) := kg_95_0 (i := 36) rfl
theorem kc_95_72 : xe_code 95 72 = some (.bipush 99, []) := kg_95_0 (i := 37) rfl
theorem kc_95_74 : xe_code 95 74 = some (.if_icmp .eq 10, [84]) := kg_95_0 (i := 38) rfl
theorem kc_95_77 : xe_code 95 77 = some (.aload_n 0, []) := kg_95_0 (i := 39) rfl
theorem kc_95_78 : xe_code 95 78 = some (.bipush (-6), []) := kg_95_0 (i := 40) rfl
theorem kc_95_80 : xe_code 95 80 = some (.invokevirtual 100, [96, 1, 436, 0]) := kg_95_0 (i := 41) rfl
theorem kc_95_83 : xe_code 95 83 = some (.ireturn, []) := kg_95_0 (i := 42) rfl
theorem kc_95_84 : xe_code 95 84 = some (.aload_n 0, []) := kg_95_0 (i := 43) rfl
theorem kc_95_85 : xe_code 95 85 = some (.getfield 28, [0, 2, 371]) := kg_95_0 (i := 44) rfl
theorem kc_95_88 : xe_code 95 88 = some (.invokevirtual 85, [91, 0, 415, 3]) := kg_95_0 (i := 45) rfl
theorem kc_95_91 : xe_code 95 91 = some (.aload_n 0, []) := kg_95_0 (i := 46) rfl
theorem kc_95_92 : xe_code 95 92 = some (.getfield 10, [0, 0, 369]) := kg_95_0 (i := 47) rfl
theorem kc_95_95 : xe_code 95 95 = some (.iload_n 2, []) := kg_95_1 (i := 0) rfl
theorem kc_95_96 : xe_code 95 96 = some (.invokevirtual 103, [97, 1, 441, 4]) := kg_95_1 (i := 1) rfl
theorem kc_95_99 : xe_code 95 99 = some (.iload_n 1, []) := kg_95_1 (i := 2) rfl
theorem kc_95_100 : xe_code 95 100 = some (.iload_n 3, []) := kg_95_1 (i := 3) rfl
theorem kc_95_101 : xe_code 95 101 = some (.invokevirtual 107, [98, 2, 445, 8]) := kg_95_1 (i := 4) rfl
theorem kc_95_104 : xe_code 95 104 = some (.ireturn, []) := kg_95_1 (i := 5) rfl
theorem kc_96_0 : xe_code 96 0 = some (.ldc_w 310, [1000000000, 440]) := kg_96_0 (i := 0) rfl
theorem kc_96_3 : xe_code 96 3 = some (.aload_n 0, []) := kg_96_0 (i := 1) rfl
theorem kc_96_4 : xe_code 96 4 = some (.iload_n 1, []) := kg_96_0 (i := 2) rfl
theorem kc_96_5 : xe_code 96 5 = some (.invokevirtual 72, [90, 1, 407, 0]) := kg_96_0 (i := 3) rfl
theorem kc_96_8 : xe_code 96 8 = some (.isub, []) := kg_96_0 (i := 4) rfl
theorem kc_96_9 : xe_code 96 9 = some (.ireturn, []) := kg_96_0 (i := 5) rfl
theorem kc_97_0 : xe_code 97 0 = some (.iload_n 1, []) := kg_97_0 (i := 0) rfl
theorem kc_97_1 : xe_code 97 1 = some (.ifCond .ne 10, [11]) := kg_97_0 (i := 1) rfl
theorem kc_97_4 : xe_code 97 4 = some (.aload_n 0, []) := kg_97_0 (i := 2) rfl
theorem kc_97_5 : xe_code 97 5 = some (.getfield 34, [4, 3, 175]) := kg_97_0 (i := 3) rfl
theorem kc_97_8 : xe_code 97 8 = some (.goto 7, [15]) := kg_97_0 (i := 4) rfl
theorem kc_97_11 : xe_code 97 11 = some (.aload_n 0, []) := kg_97_0 (i := 5) rfl
theorem kc_97_12 : xe_code 97 12 = some (.getfield 38, [4, 4, 176]) := kg_97_0 (i := 6) rfl
theorem kc_97_15 : xe_code 97 15 = some (.areturn, []) := kg_97_0 (i := 7) rfl
theorem kc_98_0 : xe_code 98 0 = some (.iload_n 1, []) := kg_98_0 (i := 0) rfl
theorem kc_98_1 : xe_code 98 1 = some (.ifCond .lt 12, [13]) := kg_98_0 (i := 1) rfl
theorem kc_98_4 : xe_code 98 4 = some (.iload_n 1, []) := kg_98_0 (i := 2) rfl
theorem kc_98_5 : xe_code 98 5 = some (.aload_n 0, []) := kg_98_0 (i := 3) rfl
theorem kc_98_6 : xe_code 98 6 = some (.getfield 9, [8, 1, 100]) := kg_98_0 (i := 4) rfl
theorem kc_98_9 : xe_code 98 9 = some (.arraylength, []) := kg_98_0 (i := 5) rfl
theorem kc_98_10 : xe_code 98 10 = some (.if_icmp .lt 6, [16]) := kg_98_0 (i := 6) rfl
theorem kc_98_13 : xe_code 98 13 = some (.bipush 99, []) := kg_98_0 (i := 7) rfl
theorem kc_98_15 : xe_code 98 15 = some (.ireturn, []) := kg_98_0 (i := 8) rfl
theorem kc_98_16 : xe_code 98 16 = some (.aload_n 0, []) := kg_98_0 (i := 9) rfl
theorem kc_98_17 : xe_code 98 17 = some (.getfield 9, [8, 1, 100]) := kg_98_0 (i := 10) rfl
theorem kc_98_20 : xe_code 98 20 = some (.iload_n 1, []) := kg_98_0 (i := 11) rfl
theorem kc_98_21 : xe_code 98 21 = some (.iaload, []) := kg_98_0 (i := 12) rfl
theorem kc_98_22 : xe_code 98 22 = some (.istore_n 3, []) := kg_98_0 (i := 13) rfl
theorem kc_98_23 : xe_code 98 23 = some (.aload_n 0, []) := kg_98_0 (i := 14) rfl
theorem kc_98_24 : xe_code 98 24 = some (.getfield 9, [8, 1, 100]) := kg_98_0 (i := 15) rfl
theorem kc_98_27 : xe_code 98 27 = some (.iload_n 1, []) := kg_98_0 (i := 16) rfl
theorem kc_98_28 : xe_code 98 28 = some (.iload_n 2, []) := kg_98_0 (i := 17) rfl
theorem kc_98_29 : xe_code 98 29 = some (.iastore, []) := kg_98_0 (i := 18) rfl
theorem kc_98_30 : xe_code 98 30 = some (.aload_n 0, []) := kg_98_0 (i := 19) rfl
theorem kc_98_31 : xe_code 98 31 = some (.iload_n 1, []) := kg_98_0 (i := 20) rfl
theorem kc_98_32 : xe_code 98 32 = some (.iconst 1, []) := kg_98_0 (i := 21) rfl
theorem kc_98_33 : xe_code 98 33 = some (.isub, []) := kg_98_0 (i := 22) rfl
theorem kc_98_34 : xe_code 98 34 = some (.invokevirtual 28, [99, 1, 449, 8]) := kg_98_0 (i := 23) rfl
theorem kc_98_37 : xe_code 98 37 = some (.istore 4, []) := kg_98_0 (i := 24) rfl
theorem kc_98_39 : xe_code 98 39 = some (.iload_n 1, []) := kg_98_0 (i := 25) rfl
theorem kc_98_40 : xe_code 98 40 = some (.istore 5, []) := kg_98_0 (i := 26) rfl
theorem kc_98_42 : xe_code 98 42 = some (.iload 5, []) := kg_98_0 (i := 27) rfl
theorem kc_98_44 : xe_code 98 44 = some (.aload_n 0, []) := kg_98_0 (i := 28) rfl
theorem kc_98_45 : xe_code 98 45 = some (.getfield 9, [8, 1, 100]) := kg_98_0 (i := 29) rfl
theorem kc_98_48 : xe_code 98 48 = some (.arraylength, []) := kg_98_0 (i := 30) rfl
theorem kc_98_49 : xe_code 98 49 = some (.if_icmp .ge 39, [88]) := kg_98_0 (i := 31) rfl
theorem kc_98_52 : xe_code 98 52 = some (.aload_n 0, []) := kg_98_0 (i := 32) rfl
theorem kc_98_53 : xe_code 98 53 = some (.getfield 9, [8, 1, 100]) := kg_98_0 (i := 33) rfl
theorem kc_98_56 : xe_code 98 56 = some (.iload 5, []) := kg_98_0 (i := 34) rfl
theorem kc_98_58 : xe_code 98 58 = some (.iaload, []) := kg_98_0 (i := 35) rfl
theorem kc_98_59 : xe_code 98 59 = some (.bipush 99, []) := kg_98_0 (i := 36) rfl
theorem kc_98_61 : xe_code 98 61 = some (.if_icmp .eq 12, [73]) := kg_98_0 (i := 37) rfl
theorem kc_98_64 : xe_code 98 64 = some (.aload_n 0, []) := kg_98_0 (i := 38) rfl
theorem kc_98_65 : xe_code 98 65 = some (.getfield 9, [8, 1, 100]) := kg_98_0 (i := 39) rfl
theorem kc_98_68 : xe_code 98 68 = some (.iload 5, []) := kg_98_0 (i := 40) rfl
theorem kc_98_70 : xe_code 98 70 = some (.iaload, []) := kg_98_0 (i := 41) rfl
theorem kc_98_71 : xe_code 98 71 = some (.istore 4, []) := kg_98_0 (i := 42) rfl
theorem kc_98_73 : xe_code 98 73 = some (.aload_n 0, []) := kg_98_0 (i := 43) rfl
theorem kc_98_74 : xe_code 98 74 = some (.getfield 15, [8, 2, 101]) := kg_98_0 (i := 44) rfl
theorem kc_98_77 : xe_code 98 77 = some (.iload 5, []) := kg_98_0 (i := 45) rfl
theorem kc_98_79 : xe_code 98 79 = some (.iload 4, []) := kg_98_0 (i := 46) rfl
theorem kc_98_81 : xe_code 98 81 = some (.iastore, []) := kg_98_0 (i := 47) rfl
theorem kc_98_82 : xe_code 98 82 = some (.iinc 5 1, []) := kg_98_1 (i := 0) rfl
theorem kc_98_85 : xe_code 98 85 = some (.goto (-43), [42]) := kg_98_1 (i := 1) rfl
theorem kc_98_88 : xe_code 98 88 = some (.iload_n 3, []) := kg_98_1 (i := 2) rfl
theorem kc_98_89 : xe_code 98 89 = some (.ireturn, []) := kg_98_1 (i := 3) rfl
theorem kc_99_0 : xe_code 99 0 = some (.iload_n 1, []) := kg_99_0 (i := 0) rfl
theorem kc_99_1 : xe_code 99 1 = some (.ifCond .lt 12, [13]) := kg_99_0 (i := 1) rfl
theorem kc_99_4 : xe_code 99 4 = some (.iload_n 1, []) := kg_99_0 (i := 2) rfl
theorem kc_99_5 : xe_code 99 5 = some (.aload_n 0, []) := kg_99_0 (i := 3) rfl
theorem kc_99_6 : xe_code 99 6 = some (.getfield 15, [8, 2, 101]) := kg_99_0 (i := 4) rfl
theorem kc_99_9 : xe_code 99 9 = some (.arraylength, []) := kg_99_0 (i := 5) rfl
theorem kc_99_10 : xe_code 99 10 = some (.if_icmp .lt 10, [20]) := kg_99_0 (i := 6) rfl
theorem kc_99_13 : xe_code 99 13 = some (.aload_n 0, []) := kg_99_0 (i := 7) rfl
theorem kc_99_14 : xe_code 99 14 = some (.getfield 18, [8, 0, 99]) := kg_99_0 (i := 8) rfl
theorem kc_99_17 : xe_code 99 17 = some (.goto 9, [26]) := kg_99_0 (i := 9) rfl
theorem kc_99_20 : xe_code 99 20 = some (.aload_n 0, []) := kg_99_0 (i := 10) rfl
theorem kc_99_21 : xe_code 99 21 = some (.getfield 15, [8, 2, 101]) := kg_99_0 (i := 11) rfl
theorem kc_99_24 : xe_code 99 24 = some (.iload_n 1, []) := kg_99_0 (i := 12) rfl
theorem kc_99_25 : xe_code 99 25 = some (.iaload, []) := kg_99_0 (i := 13) rfl
theorem kc_99_26 : xe_code 99 26 = some (.ireturn, []) := kg_99_0 (i := 14) rfl
theorem kc_100_0 : xe_code 100 0 = some (.iload_n 2, []) := kg_100_0 (i := 0) rfl
theorem kc_100_1 : xe_code 100 1 = some (.ifCond .eq 15, [16]) := kg_100_0 (i := 1) rfl
theorem kc_100_4 : xe_code 100 4 = some (.iload_n 2, []) := kg_100_0 (i := 2) rfl
theorem kc_100_5 : xe_code 100 5 = some (.iconst 1, []) := kg_100_0 (i := 3) rfl
theorem kc_100_6 : xe_code 100 6 = some (.if_icmp .eq 10, [16]) := kg_100_0 (i := 4) rfl
theorem kc_100_9 : xe_code 100 9 = some (.aload_n 0, []) := kg_100_0 (i := 5) rfl
theorem kc_100_10 : xe_code 100 10 = some (.bipush (-2), []) := kg_100_0 (i := 6) rfl
theorem kc_100_12 : xe_code 100 12 = some (.invokevirtual 100, [96, 1, 436, 0]) := kg_100_0 (i := 7) rfl
theorem kc_100_15 : xe_code 100 15 = some (.ireturn, []) := kg_100_0 (i := 8) rfl
theorem kc_100_16 : xe_code 100 16 = some (.iload_n 1, []) := kg_100_0 (i := 9) rfl
theorem kc_100_17 : xe_code 100 17 = some (.ifCond .ge 10, [27]) := kg_100_0 (i := 10) rfl
theorem kc_100_20 : xe_code 100 20 = some (.aload_n 0, []) := kg_100_0 (i := 11) rfl
theorem kc_100_21 : xe_code 100 21 = some (.bipush (-4), []) := kg_100_0 (i := 12) rfl
theorem kc_100_23 : xe_code 100 23 = some (.invokevirtual 100, [96, 1, 436, 0]) := kg_100_0 (i := 13) rfl
theorem kc_100_26 : xe_code 100 26 = some (.ireturn, []) := kg_100_0 (i := 14) rfl
theorem kc_100_27 : xe_code 100 27 = some (.iload_n 1, []) := kg_100_0 (i := 15) rfl
theorem kc_100_28 : xe_code 100 28 = some (.sipush 600, []) := kg_100_0 (i := 16) rfl
theorem kc_100_31 : xe_code 100 31 = some (.if_icmp .lt 10, [41]) := kg_100_0 (i := 17) rfl
theorem kc_100_34 : xe_code 100 34 = some (.aload_n 0, []) := kg_100_0 (i := 18) rfl
theorem kc_100_35 : xe_code 100 35 = some (.bipush (-6), []) := kg_100_0 (i := 19) rfl
theorem kc_100_37 : xe_code 100 37 = some (.invokevirtual 100, [96, 1, 436, 0]) := kg_100_0 (i := 20) rfl
theorem kc_100_40 : xe_code 100 40 = some (.ireturn, []) := kg_100_0 (i := 21) rfl
theorem kc_100_41 : xe_code 100 41 = some (.aload_n 0, []) := kg_100_0 (i := 22) rfl
theorem kc_100_42 : xe_code 100 42 = some (.getfield 10, [0, 0, 369]) := kg_100_0 (i := 23) rfl
theorem kc_100_45 : xe_code 100 45 = some (.iload_n 2, []) := kg_100_0 (i := 24) rfl
theorem kc_100_46 : xe_code 100 46 = some (.invokevirtual 103, [97, 1, 441, 4]) := kg_100_0 (i := 25) rfl
theorem kc_100_49 : xe_code 100 49 = some (.iload_n 1, []) := kg_100_0 (i := 26) rfl
theorem kc_100_50 : xe_code 100 50 = some (.invokevirtual 113, [99, 1, 457, 8]) := kg_100_0 (i := 27) rfl
theorem kc_100_53 : xe_code 100 53 = some (.ireturn, []) := kg_100_0 (i := 28) rfl
theorem kc_101_0 : xe_code 101 0 = some (.iload_n 1, []) := kg_101_0 (i := 0) rfl
theorem kc_101_1 : xe_code 101 1 = some (.bipush (-20), []) := kg_101_0 (i := 1) rfl
theorem kc_101_3 : xe_code 101 3 = some (.if_icmp .ge 10, [13]) := kg_101_0 (i := 2) rfl
theorem kc_101_6 : xe_code 101 6 = some (.aload_n 0, []) := kg_101_0 (i := 3) rfl
theorem kc_101_7 : xe_code 101 7 = some (.bipush (-4), []) := kg_101_0 (i := 4) rfl
theorem kc_101_9 : xe_code 101 9 = some (.invokevirtual 72, [90, 1, 407, 0]) := kg_101_0 (i := 5) rfl
theorem kc_101_12 : xe_code 101 12 = some (.ireturn, []) := kg_101_0 (i := 6) rfl
theorem kc_101_13 : xe_code 101 13 = some (.iload_n 1, []) := kg_101_0 (i := 7) rfl
theorem kc_101_14 : xe_code 101 14 = some (.bipush 30, []) := kg_101_0 (i := 8) rfl
theorem kc_101_16 : xe_code 101 16 = some (.if_icmp .le 10, [26]) := kg_101_0 (i := 9) rfl
theorem kc_101_19 : xe_code 101 19 = some (.aload_n 0, []) := kg_101_0 (i := 10) rfl
theorem kc_101_20 : xe_code 101 20 = some (.bipush (-6), []) := kg_101_0 (i := 11) rfl
theorem kc_101_22 : xe_code 101 22 = some (.invokevirtual 72, [90, 1, 407, 0]) := kg_101_0 (i := 12) rfl
theorem kc_101_25 : xe_code 101 25 = some (.ireturn, []) := kg_101_0 (i := 13) rfl
theorem kc_101_26 : xe_code 101 26 = some (.iload_n 1, []) := kg_101_0 (i := 14) rfl
theorem kc_101_27 : xe_code 101 27 = some (.invokestatic 116, [102, 1, 462, 4]) := kg_101_0 (i := 15) rfl
theorem kc_101_30 : xe_code 101 30 = some (.ireturn, []) := kg_101_0 (i := 16) rfl
theorem kc_102_0 : xe_code 102 0 = some (.iload_n 0, []) := kg_102_0 (i := 0) rfl
theorem kc_102_1 : xe_code 102 1 = some (.ifCond .lt 16, [17]) := kg_102_0 (i := 1) rfl
theorem kc_102_4 : xe_code 102 4 = some (.iconst 5, []) := kg_102_0 (i := 2) rfl
theorem kc_102_5 : xe_code 102 5 = some (.iload_n 0, []) := kg_102_0 (i := 3) rfl
theorem kc_102_6 : xe_code 102 6 = some (.iconst 2, []) := kg_102_0 (i := 4) rfl
theorem kc_102_7 : xe_code 102 7 = some (.idiv, []) := kg_102_0 (i := 5) rfl
theorem kc_102_8 : xe_code 102 8 = some (.iadd, []) := kg_102_0 (i := 6) rfl
theorem kc_102_9 : xe_code 102 9 = some (.iload_n 0, []) := kg_102_0 (i := 7) rfl
theorem kc_102_10 : xe_code 102 10 = some (.iload_n 0, []) := kg_102_0 (i := 8) rfl
theorem kc_102_11 : xe_code 102 11 = some (.imul, []) := kg_102_0 (i := 9) rfl
theorem kc_102_12 : xe_code 102 12 = some (.bipush 40, []) := kg_102_0 (i := 10) rfl
theorem kc_102_14 : xe_code 102 14 = some (.idiv, []) := kg_102_0 (i := 11) rfl
theorem kc_102_15 : xe_code 102 15 = some (.iadd, []) := kg_102_0 (i := 12) rfl
theorem kc_102_16 : xe_code 102 16 = some (.ireturn, []) := kg_102_0 (i := 13) rfl
theorem kc_102_17 : xe_code 102 17 = some (.iconst 5, []) := kg_102_0 (i := 14) rfl
theorem kc_102_18 : xe_code 102 18 = some (.iload_n 0, []) := kg_102_0 (i := 15) rfl
theorem kc_102_19 : xe_code 102 19 = some (.invokestatic 56, [2, 1, 465, 0]) := kg_102_0 (i := 16) rfl
theorem kc_102_22 : xe_code 102 22 = some (.iconst 5, []) := kg_102_0 (i := 17) rfl
theorem kc_102_23 : xe_code 102 23 = some (.idiv, []) := kg_102_0 (i := 18) rfl
theorem kc_102_24 : xe_code 102 24 = some (.isub, []) := kg_102_0 (i := 19) rfl
theorem kc_102_25 : xe_code 102 25 = some (.istore_n 1, []) := kg_102_0 (i := 20) rfl
theorem kc_102_26 : xe_code 102 26 = some (.iload_n 1, []) := kg_102_0 (i := 21) rfl
theorem kc_102_27 : xe_code 102 27 = some (.iconst 1, []) := kg_102_0 (i := 22) rfl
theorem kc_102_28 : xe_code 102 28 = some (.if_icmp .ge 7, [35]) := kg_102_0 (i := 23) rfl
theorem kc_102_31 : xe_code 102 31 = some (.iconst 1, []) := kg_102_0 (i := 24) rfl
theorem kc_102_32 : xe_code 102 32 = some (.goto 4, [36]) := kg_102_0 (i := 25) rfl
theorem kc_102_35 : xe_code 102 35 = some (.iload_n 1, []) := kg_102_0 (i := 26) rfl
theorem kc_102_36 : xe_code 102 36 = some (.ireturn, []) := kg_102_0 (i := 27) rfl
theorem kc_103_0 : xe_code 103 0 = some (.iload_n 1, []) := kg_103_0 (i := 0) rfl
theorem kc_103_1 : xe_code 103 1 = some (.invokestatic 119, [104, 1, 472, 0]) := kg_103_0 (i := 1) rfl
theorem kc_103_4 : xe_code 103 4 = some (.ifCond .eq 10, [14]) := kg_103_0 (i := 2) rfl
theorem kc_103_7 : xe_code 103 7 = some (.iload_n 2, []) := kg_103_0 (i := 3) rfl
theorem kc_103_8 : xe_code 103 8 = some (.invokestatic 68, [89, 1, 404, 0]) := kg_103_0 (i := 4) rfl
theorem kc_103_11 : xe_code 103 11 = some (.ifCond .ne 9, [20]) := kg_103_0 (i := 5) rfl
theorem kc_103_14 : xe_code 103 14 = some (.aload_n 0, []) := kg_103_0 (i := 6) rfl
theorem kc_103_15 : xe_code 103 15 = some (.iconst (-1), []) := kg_103_0 (i := 7) rfl
theorem kc_103_16 : xe_code 103 16 = some (.invokevirtual 72, [90, 1, 407, 0]) := kg_103_0 (i := 8) rfl
theorem kc_103_19 : xe_code 103 19 = some (.ireturn, []) := kg_103_0 (i := 9) rfl
theorem kc_103_20 : xe_code 103 20 = some (.iload_n 3, []) := kg_103_0 (i := 10) rfl
theorem kc_103_21 : xe_code 103 21 = some (.ifCond .ge 10, [31]) := kg_103_0 (i := 11) rfl
theorem kc_103_24 : xe_code 103 24 = some (.aload_n 0, []) := kg_103_0 (i := 12) rfl
theorem kc_103_25 : xe_code 103 25 = some (.bipush (-4), []) := kg_103_0 (i := 13) rfl
theorem kc_103_27 : xe_code 103 27 = some (.invokevirtual 72, [90, 1, 407, 0]) := kg_103_0 (i := 14) rfl
theorem kc_103_30 : xe_code 103 30 = some (.ireturn, []) := kg_103_0 (i := 15) rfl
theorem kc_103_31 : xe_code 103 31 = some (.iload_n 3, []) := kg_103_0 (i := 16) rfl
theorem kc_103_32 : xe_code 103 32 = some (.bipush 100, []) := kg_103_0 (i := 17) rfl
theorem kc_103_34 : xe_code 103 34 = some (.if_icmp .le 10, [44]) := kg_103_0 (i := 18) rfl
theorem kc_103_37 : xe_code 103 37 = some (.aload_n 0, []) := kg_103_0 (i := 19) rfl
theorem kc_103_38 : xe_code 103 38 = some (.bipush (-6), []) := kg_103_0 (i := 20) rfl
theorem kc_103_40 : xe_code 103 40 = some (.invokevirtual 72, [90, 1, 407, 0]) := kg_103_0 (i := 21) rfl
theorem kc_103_43 : xe_code 103 43 = some (.ireturn, []) := kg_103_0 (i := 22) rfl
theorem kc_103_44 : xe_code 103 44 = some (.aload_n 0, []) := kg_103_0 (i := 23) rfl
theorem kc_103_45 : xe_code 103 45 = some (.getfield 28, [0, 2, 371]) := kg_103_0 (i := 24) rfl
theorem kc_103_48 : xe_code 103 48 = some (.invokevirtual 85, [91, 0, 415, 3]) := kg_103_0 (i := 25) rfl
theorem kc_103_51 : xe_code 103 51 = some (.aload_n 0, []) := kg_103_0 (i := 26) rfl
theorem kc_103_52 : xe_code 103 52 = some (.getfield 10, [0, 0, 369]) := kg_103_0 (i := 27) rfl
theorem kc_103_55 : xe_code 103 55 = some (.getfield 122, [4, 1, 173]) := kg_103_0 (i := 28) rfl
theorem kc_103_58 : xe_code 103 58 = some (.iload_n 1, []) := kg_103_0 (i := 29) rfl
theorem kc_103_59 : xe_code 103 59 = some (.aaload, []) := kg_103_0 (i := 30) rfl
theorem kc_103_60 : xe_code 103 60 = some (.astore 5, []) := kg_103_0 (i := 31) rfl
theorem kc_103_62 : xe_code 103 62 = some (.aload 5, []) := kg_103_0 (i := 32) rfl
theorem kc_103_64 : xe_code 103 64 = some (.invokevirtual 126, [105, 0, 475, 11]) := kg_103_0 (i := 33) rfl
theorem kc_103_67 : xe_code 103 67 = some (.ifCond .eq 7, [74]) := kg_103_0 (i := 34) rfl
theorem kc_103_70 : xe_code 103 70 = some (.iconst 0, []) := kg_103_0 (i := 35) rfl
theorem kc_103_71 : xe_code 103 71 = some (.goto 4, [75]) := kg_103_0 (i := 36) rfl
theorem kc_103_74 : xe_code 103 74 = some (.iconst 1, []) := kg_103_0 (i := 37) rfl
theorem kc_103_75 : xe_code 103 75 = some (.istore 6, []) := kg_103_0 (i := 38) rfl
theorem kc_103_77 : xe_code 103 77 = some (.aload 5, []) := kg_103_0 (i := 39) rfl
theorem kc_103_79 : xe_code 103 79 = some (.iload_n 2, []) := kg_103_0 (i := 40) rfl
theorem kc_103_80 : xe_code 103 80 = some (.putfield 132, [11, 0, 132]) := kg_103_0 (i := 41) rfl
theorem kc_103_83 : xe_code 103 83 = some (.aload 5, []) := kg_103_0 (i := 42) rfl
theorem kc_103_85 : xe_code 103 85 = some (.iload_n 3, []) := kg_103_0 (i := 43) rfl
theorem kc_103_86 : xe_code 103 86 = some (.putfield 135, [11, 1, 134]) := kg_103_0 (i := 44) rfl
theorem kc_103_89 : xe_code 103 89 = some (.aload 5, []) := kg_103_0 (i := 45) rfl
theorem kc_103_91 : xe_code 103 91 = some (.iload 4, []) := kg_103_0 (i := 46) rfl
theorem kc_103_93 : xe_code 103 93 = some (.putfield 138, [11, 2, 135]) := kg_103_0 (i := 47) rfl
theorem kc_103_96 : xe_code 103 96 = some (.iload 6, []) := kg_103_1 (i := 0) rfl
theorem kc_103_98 : xe_code 103 98 = some (.ireturn, []) := kg_103_1 (i := 1) rfl
theorem kc_104_0 : xe_code 104 0 = some (.iload_n 0, []) := kg_104_0 (i := 0) rfl
theorem kc_104_1 : xe_code 104 1 = some (.ifCond .lt 13, [14]) := kg_104_0 (i := 1) rfl
theorem kc_104_4 : xe_code 104 4 = some (.iload_n 0, []) := kg_104_0 (i := 2) rfl
theorem kc_104_5 : xe_code 104 5 = some (.bipush 12, []) := kg_104_0 (i := 3) rfl
theorem kc_104_7 : xe_code 104 7 = some (.if_icmp .ge 7, [14]) := kg_104_0 (i := 4) rfl
theorem kc_104_10 : xe_code 104 10 = some (.iconst 1, []) := kg_104_0 (i := 5) rfl
theorem kc_104_11 : xe_code 104 11 = some (.goto 4, [15]) := kg_104_0 (i := 6) rfl
theorem kc_104_14 : xe_code 104 14 = some (.iconst 0, []) := kg_104_0 (i := 7) rfl
theorem kc_104_15 : xe_code 104 15 = some (.ireturn, []) := kg_104_0 (i := 8) rfl
theorem kc_105_0 : xe_code 105 0 = some (.aload_n 0, []) := kg_105_0 (i := 0) rfl
theorem kc_105_1 : xe_code 105 1 = some (.getfield 9, [11, 0, 130]) := kg_105_0 (i := 1) rfl
theorem kc_105_4 : xe_code 105 4 = some (.invokestatic 19, [89, 1, 479, 0]) := kg_105_0 (i := 2) rfl
theorem kc_105_7 : xe_code 105 7 = some (.ireturn, []) := kg_105_0 (i := 3) rfl
theorem kc_106_0 : xe_code 106 0 = some (.iload_n 1, []) := kg_106_0 (i := 0) rfl
theorem kc_106_1 : xe_code 106 1 = some (.invokestatic 119, [104, 1, 472, 0]) := kg_106_0 (i := 1) rfl
theorem kc_106_4 : xe_code 106 4 = some (.ifCond .ne 9, [13]) := kg_106_0 (i := 2) rfl
theorem kc_106_7 : xe_code 106 7 = some (.aload_n 0, []) := kg_106_0 (i := 3) rfl
theorem kc_106_8 : xe_code 106 8 = some (.iconst (-1), []) := kg_106_0 (i := 4) rfl
theorem kc_106_9 : xe_code 106 9 = some (.invokevirtual 72, [90, 1, 407, 0]) := kg_106_0 (i := 5) rfl
theorem kc_106_12 : xe_code 106 12 = some (.ireturn, []) := kg_106_0 (i := 6) rfl
theorem kc_106_13 : xe_code 106 13 = some (.aload_n 0, []) := kg_106_0 (i := 7) rfl
theorem kc_106_14 : xe_code 106 14 = some (.getfield 10, [0, 0, 369]) := kg_106_0 (i := 8) rfl
theorem kc_106_17 : xe_code 106 17 = some (.getfield 122, [4, 1, 173]) := kg_106_0 (i := 9) rfl
theorem kc_106_20 : xe_code 106 20 = some (.iload_n 1, []) := kg_106_0 (i := 10) rfl
theorem kc_106_21 : xe_code 106 21 = some (.aaload, []) := kg_106_0 (i := 11) rfl
theorem kc_106_22 : xe_code 106 22 = some (.astore_n 3, []) := kg_106_0 (i := 12) rfl
theorem kc_106_23 : xe_code 106 23 = some (.iload_n 2, []) := kg_106_0 (i := 13) rfl
theorem kc_106_24 : xe_code 106 24 = some (.tableswitch 91 0 5 #[40, 45, 50, 63, 73, 78], [115, 64, 69, 74, 87, 97, 102]) := kg_106_0 (i := 14) rfl
theorem kc_106_64 : xe_code 106 64 = some (.aload_n 3, []) := kg_106_0 (i := 15) rfl
theorem kc_106_65 : xe_code 106 65 = some (.getfield 132, [11, 0, 132]) := kg_106_0 (i := 16) rfl
theorem kc_106_68 : xe_code 106 68 = some (.ireturn, []) := kg_106_0 (i := 17) rfl
theorem kc_106_69 : xe_code 106 69 = some (.aload_n 3, []) := kg_106_0 (i := 18) rfl
theorem kc_106_70 : xe_code 106 70 = some (.getfield 135, [11, 1, 134]) := kg_106_0 (i := 19) rfl
theorem kc_106_73 : xe_code 106 73 = some (.ireturn, []) := kg_106_0 (i := 20) rfl
theorem kc_106_74 : xe_code 106 74 = some (.aload_n 3, []) := kg_106_0 (i := 21) rfl
theorem kc_106_75 : xe_code 106 75 = some (.getfield 138, [11, 2, 135]) := kg_106_0 (i := 22) rfl
theorem kc_106_78 : xe_code 106 78 = some (.ifCond .eq 7, [85]) := kg_106_0 (i := 23) rfl
theorem kc_106_81 : xe_code 106 81 = some (.iconst 1, []) := kg_106_0 (i := 24) rfl
theorem kc_106_82 : xe_code 106 82 = some (.goto 4, [86]) := kg_106_0 (i := 25) rfl
theorem kc_106_85 : xe_code 106 85 = some (.iconst 0, []) := kg_106_0 (i := 26) rfl
theorem kc_106_86 : xe_code 106 86 = some (.ireturn, []) := kg_106_0 (i := 27) rfl
theorem kc_106_87 : xe_code 106 87 = some (.aload_n 0, []) := kg_106_0 (i := 28) rfl
theorem kc_106_88 : xe_code 106 88 = some (.getfield 19, [0, 1, 370]) := kg_106_0 (i := 29) rfl
theorem kc_106_91 : xe_code 106 91 = some (.getfield 142, [9, 1, 207]) := kg_106_0 (i := 30) rfl
theorem kc_106_94 : xe_code 106 94 = some (.iload_n 1, []) := kg_106_0 (i := 31) rfl
theorem kc_106_95 : xe_code 106 95 = some (.iaload, []) := kg_106_0 (i := 32) rfl
theorem kc_106_96 : xe_code 106 96 = some (.ireturn, []) := kg_106_0 (i := 33) rfl
theorem kc_106_97 : xe_code 106 97 = some (.aload_n 3, []) := kg_106_0 (i := 34) rfl
theorem kc_106_98 : xe_code 106 98 = some (.getfield 145, [11, 3, 137]) := kg_106_0 (i := 35) rfl
theorem kc_106_101 : xe_code 106 101 = some (.ireturn, []) := kg_106_0 (i := 36) rfl
theorem kc_106_102 : xe_code 106 102 = some (.aload_n 0, []) := kg_106_0 (i := 37) rfl
theorem kc_106_103 : xe_code 106 103 = some (.getfield 10, [0, 0, 369]) := kg_106_0 (i := 38) rfl
theorem kc_106_106 : xe_code 106 106 = some (.iload_n 1, []) := kg_106_0 (i := 39) rfl
theorem kc_106_107 : xe_code 106 107 = some (.aload_n 0, []) := kg_106_0 (i := 40) rfl
theorem kc_106_108 : xe_code 106 108 = some (.getfield 148, [0, 9, 378]) := kg_106_0 (i := 41) rfl
theorem kc_106_111 : xe_code 106 111 = some (.invokevirtual 151, [107, 2, 484, 4]) := kg_106_0 (i := 42) rfl
theorem kc_106_114 : xe_code 106 114 = some (.ireturn, []) := kg_106_0 (i := 43) rfl
theorem kc_106_115 : xe_code 106 115 = some (.aload_n 0, []) := kg_106_0 (i := 44) rfl
theorem kc_106_116 : xe_code 106 116 = some (.bipush (-2), []) := kg_106_0 (i := 45) rfl
theorem kc_106_118 : xe_code 106 118 = some (.invokevirtual 72, [90, 1, 407, 0]) := kg_106_0 (i := 46) rfl
theorem kc_106_121 : xe_code 106 121 = some (.ireturn, []) := kg_106_0 (i := 47) rfl
theorem kc_107_0 : xe_code 107 0 = some (.aload_n 0, []) := kg_107_0 (i := 0) rfl
theorem kc_107_1 : xe_code 107 1 = some (.iload_n 1, []) := kg_107_0 (i := 1) rfl
theorem kc_107_2 : xe_code 107 2 = some (.invokevirtual 72, [108, 1, 488, 4]) := kg_107_0 (i := 2) rfl
theorem kc_107_5 : xe_code 107 5 = some (.ifCond .ne 5, [10]) := kg_107_0 (i := 3) rfl
theorem kc_107_8 : xe_code 107 8 = some (.iconst 0, []) := kg_107_0 (i := 4) rfl
theorem kc_107_9 : xe_code 107 9 = some (.ireturn, []) := kg_107_0 (i := 5) rfl
theorem kc_107_10 : xe_code 107 10 = some (.aload_n 0, []) := kg_107_0 (i := 6) rfl
theorem kc_107_11 : xe_code 107 11 = some (.getfield 11, [4, 0, 170]) := kg_107_0 (i := 7) rfl
theorem kc_107_14 : xe_code 107 14 = some (.aload_n 0, []) := kg_107_0 (i := 8) rfl
theorem kc_107_15 : xe_code 107 15 = some (.getfield 19, [4, 1, 172]) := kg_107_0 (i := 9) rfl
theorem kc_107_18 : xe_code 107 18 = some (.iload_n 1, []) := kg_107_0 (i := 10) rfl
theorem kc_107_19 : xe_code 107 19 = some (.aaload, []) := kg_107_0 (i := 11) rfl
theorem kc_107_20 : xe_code 107 20 = some (.getfield 69, [11, 0, 131]) := kg_107_0 (i := 12) rfl
theorem kc_107_23 : xe_code 107 23 = some (.aaload, []) := kg_107_0 (i := 13) rfl
theorem kc_107_24 : xe_code 107 24 = some (.getfield 94, [7, 0, 116]) := kg_107_0 (i := 14) rfl
theorem kc_107_27 : xe_code 107 27 = some (.iconst 1, []) := kg_107_0 (i := 15) rfl
theorem kc_107_28 : xe_code 107 28 = some (.iaload, []) := kg_107_0 (i := 16) rfl
theorem kc_107_29 : xe_code 107 29 = some (.istore_n 3, []) := kg_107_0 (i := 17) rfl
theorem kc_107_30 : xe_code 107 30 = some (.aload_n 0, []) := kg_107_0 (i := 18) rfl
theorem kc_107_31 : xe_code 107 31 = some (.getfield 19, [4, 1, 172]) := kg_107_0 (i := 19) rfl
theorem kc_107_34 : xe_code 107 34 = some (.iload_n 1, []) := kg_107_0 (i := 20) rfl
theorem kc_107_35 : xe_code 107 35 = some (.aaload, []) := kg_107_0 (i := 21) rfl
theorem kc_107_36 : xe_code 107 36 = some (.iload_n 3, []) := kg_107_0 (i := 22) rfl
theorem kc_107_37 : xe_code 107 37 = some (.aload_n 0, []) := kg_107_0 (i := 23) rfl
theorem kc_107_38 : xe_code 107 38 = some (.getfield 34, [4, 3, 175]) := kg_107_0 (i := 24) rfl
theorem kc_107_41 : xe_code 107 41 = some (.iload_n 2, []) := kg_107_0 (i := 25) rfl
theorem kc_107_42 : xe_code 107 42 = some (.invokevirtual 98, [99, 1, 494, 8]) := kg_107_0 (i := 26) rfl
theorem kc_107_45 : xe_code 107 45 = some (.isub, []) := kg_107_0 (i := 27) rfl
theorem kc_107_46 : xe_code 107 46 = some (.invokevirtual 100, [109, 1, 495, 11]) := kg_107_0 (i := 28) rfl
theorem kc_107_49 : xe_code 107 49 = some (.ireturn, []) := kg_107_0 (i := 29) rfl
theorem kc_108_0 : xe_code 108 0 = some (.iload_n 1, []) := kg_108_0 (i := 0) rfl
theorem kc_108_1 : xe_code 108 1 = some (.invokestatic 62, [104, 1, 492, 0]) := kg_108_0 (i := 1) rfl
theorem kc_108_4 : xe_code 108 4 = some (.ifCond .eq 19, [23]) := kg_108_0 (i := 2) rfl
theorem kc_108_7 : xe_code 108 7 = some (.aload_n 0, []) := kg_108_0 (i := 3) rfl
theorem kc_108_8 : xe_code 108 8 = some (.getfield 19, [4, 1, 172]) := kg_108_0 (i := 4) rfl
theorem kc_108_11 : xe_code 108 11 = some (.iload_n 1, []) := kg_108_0 (i := 5) rfl
theorem kc_108_12 : xe_code 108 12 = some (.aaload, []) := kg_108_0 (i := 6) rfl
theorem kc_108_13 : xe_code 108 13 = some (.invokevirtual 65, [105, 0, 493, 11]) := kg_108_0 (i := 7) rfl
theorem kc_108_16 : xe_code 108 16 = some (.ifCond .eq 7, [23]) := kg_108_0 (i := 8) rfl
theorem kc_108_19 : xe_code 108 19 = some (.iconst 1, []) := kg_108_0 (i := 9) rfl
theorem kc_108_20 : xe_code 108 20 = some (.goto 4, [24]) := kg_108_0 (i := 10) rfl
theorem kc_108_23 : xe_code 108 23 = some (.iconst 0, []) := kg_108_0 (i := 11) rfl
theorem kc_108_24 : xe_code 108 24 = some (.ireturn, []) := kg_108_0 (i := 12) rfl
theorem kc_109_0 : xe_code 109 0 = some (.iload_n 1, []) := kg_109_0 (i := 0) rfl
theorem kc_109_1 : xe_code 109 1 = some (.aload_n 0, []) := kg_109_0 (i := 1) rfl
theorem kc_109_2 : xe_code 109 2 = some (.getfield 23, [11, 1, 133]) := kg_109_0 (i := 2) rfl
theorem kc_109_5 : xe_code 109 5 = some (.imul, []) := kg_109_0 (i := 3) rfl
theorem kc_109_6 : xe_code 109 6 = some (.bipush 100, []) := kg_109_0 (i := 4) rfl
theorem kc_109_8 : xe_code 109 8 = some (.idiv, []) := kg_109_0 (i := 5) rfl
theorem kc_109_9 : xe_code 109 9 = some (.istore_n 2, []) := kg_109_0 (i := 6) rfl
theorem kc_109_10 : xe_code 109 10 = some (.iload_n 2, []) := kg_109_0 (i := 7) rfl
theorem kc_109_11 : xe_code 109 11 = some (.ifCond .ge 7, [18]) := kg_109_0 (i := 8) rfl
theorem kc_109_14 : xe_code 109 14 = some (.iconst 0, []) := kg_109_0 (i := 9) rfl
theorem kc_109_15 : xe_code 109 15 = some (.goto 4, [19]) := kg_109_0 (i := 10) rfl
theorem kc_109_18 : xe_code 109 18 = some (.iload_n 2, []) := kg_109_0 (i := 11) rfl
theorem kc_109_19 : xe_code 109 19 = some (.ireturn, []) := kg_109_0 (i := 12) rfl
theorem kc_110_0 : xe_code 110 0 = some (.iload_n 1, []) := kg_110_0 (i := 0) rfl
theorem kc_110_1 : xe_code 110 1 = some (.iconst 1, []) := kg_110_0 (i := 1) rfl
theorem kc_110_2 : xe_code 110 2 = some (.if_icmp .ge 10, [12]) := kg_110_0 (i := 2) rfl
theorem kc_110_5 : xe_code 110 5 = some (.aload_n 0, []) := kg_110_0 (i := 3) rfl
theorem kc_110_6 : xe_code 110 6 = some (.bipush (-4), []) := kg_110_0 (i := 4) rfl
theorem kc_110_8 : xe_code 110 8 = some (.invokevirtual 72, [90, 1, 407, 0]) := kg_110_0 (i := 5) rfl
theorem kc_110_11 : xe_code 110 11 = some (.ireturn, []) := kg_110_0 (i := 6) rfl
theorem kc_110_12 : xe_code 110 12 = some (.iload_n 1, []) := kg_110_0 (i := 7) rfl
theorem kc_110_13 : xe_code 110 13 = some (.bipush 50, []) := kg_110_0 (i := 8) rfl
theorem kc_110_15 : xe_code 110 15 = some (.if_icmp .le 10, [25]) := kg_110_0 (i := 9) rfl
theorem kc_110_18 : xe_code 110 18 = some (.aload_n 0, []) := kg_110_0 (i := 10) rfl
theorem kc_110_19 : xe_code 110 19 = some (.bipush (-6), []) := kg_110_0 (i := 11) rfl
theorem kc_110_21 : xe_code 110 21 = some (.invokevirtual 72, [90, 1, 407, 0]) := kg_110_0 (i := 12) rfl
theorem kc_110_24 : xe_code 110 24 = some (.ireturn, []) := kg_110_0 (i := 13) rfl
theorem kc_110_25 : xe_code 110 25 = some (.aload_n 0, []) := kg_110_0 (i := 14) rfl
theorem kc_110_26 : xe_code 110 26 = some (.getfield 28, [0, 2, 371]) := kg_110_0 (i := 15) rfl
theorem kc_110_29 : xe_code 110 29 = some (.invokevirtual 85, [91, 0, 415, 3]) := kg_110_0 (i := 16) rfl
theorem kc_110_32 : xe_code 110 32 = some (.aload_n 0, []) := kg_110_0 (i := 17) rfl
theorem kc_110_33 : xe_code 110 33 = some (.getfield 10, [0, 0, 369]) := kg_110_0 (i := 18) rfl
theorem kc_110_36 : xe_code 110 36 = some (.getfield 154, [4, 6, 180]) := kg_110_0 (i := 19) rfl
theorem kc_110_39 : xe_code 110 39 = some (.istore_n 2, []) := kg_110_0 (i := 20) rfl
theorem kc_110_40 : xe_code 110 40 = some (.aload_n 0, []) := kg_110_0 (i := 21) rfl
theorem kc_110_41 : xe_code 110 41 = some (.getfield 10, [0, 0, 369]) := kg_110_0 (i := 22) rfl
theorem kc_110_44 : xe_code 110 44 = some (.iload_n 1, []) := kg_110_0 (i := 23) rfl
theorem kc_110_45 : xe_code 110 45 = some (.putfield 154, [4, 6, 180]) := kg_110_0 (i := 24) rfl
theorem kc_110_48 : xe_code 110 48 = some (.iload_n 2, []) := kg_110_0 (i := 25) rfl
theorem kc_110_49 : xe_code 110 49 = some (.ireturn, []) := kg_110_0 (i := 26) rfl
theorem kc_111_0 : xe_code 111 0 = some (.iload_n 1, []) := kg_111_0 (i := 0) rfl
theorem kc_111_1 : xe_code 111 1 = some (.invokestatic 119, [104, 1, 472, 0]) := kg_111_0 (i := 1) rfl
theorem kc_111_4 : xe_code 111 4 = some (.ifCond .ne 9, [13]) := kg_111_0 (i := 2) rfl
theorem kc_111_7 : xe_code 111 7 = some (.aload_n 0, []) := kg_111_0 (i := 3) rfl
theorem kc_111_8 : xe_code 111 8 = some (.iconst (-1), []) := kg_111_0 (i := 4) rfl
theorem kc_111_9 : xe_code 111 9 = some (.invokevirtual 72, [90, 1, 407, 0]) := kg_111_0 (i := 5) rfl
theorem kc_111_12 : xe_code 111 12 = some (.ireturn, []) := kg_111_0 (i := 6) rfl
theorem kc_111_13 : xe_code 111 13 = some (.aload_n 0, []) := kg_111_0 (i := 7) rfl
theorem kc_111_14 : xe_code 111 14 = some (.getfield 10, [0, 0, 369]) := kg_111_0 (i := 8) rfl
theorem kc_111_17 : xe_code 111 17 = some (.getfield 122, [4, 1, 173]) := kg_111_0 (i := 9) rfl
theorem kc_111_20 : xe_code 111 20 = some (.iload_n 1, []) := kg_111_0 (i := 10) rfl
theorem kc_111_21 : xe_code 111 21 = some (.aaload, []) := kg_111_0 (i := 11) rfl
theorem kc_111_22 : xe_code 111 22 = some (.getfield 145, [11, 3, 137]) := kg_111_0 (i := 12) rfl
theorem kc_111_25 : xe_code 111 25 = some (.istore_n 2, []) := kg_111_0 (i := 13) rfl
theorem kc_111_26 : xe_code 111 26 = some (.aload_n 0, []) := kg_111_0 (i := 14) rfl
theorem kc_111_27 : xe_code 111 27 = some (.getfield 10, [0, 0, 369]) := kg_111_0 (i := 15) rfl
theorem kc_111_30 : xe_code 111 30 = some (.getfield 122, [4, 1, 173]) := kg_111_0 (i := 16) rfl
theorem kc_111_33 : xe_code 111 33 = some (.iload_n 1, []) := kg_111_0 (i := 17) rfl
theorem kc_111_34 : xe_code 111 34 = some (.aaload, []) := kg_111_0 (i := 18) rfl
theorem kc_111_35 : xe_code 111 35 = some (.iconst 0, []) := kg_111_0 (i := 19) rfl
theorem kc_111_36 : xe_code 111 36 = some (.putfield 145, [11, 3, 137]) := kg_111_0 (i := 20) rfl
theorem kc_111_39 : xe_code 111 39 = some (.iload_n 2, []) := kg_111_0 (i := 21) rfl
theorem kc_111_40 : xe_code 111 40 = some (.ireturn, []) := kg_111_0 (i := 22) rfl
theorem kc_112_0 : xe_code 112 0 = some (.iload_n 1, []) := kg_112_0 (i := 0) rfl
theorem kc_112_1 : xe_code 112 1 = some (.invokestatic 68, [89, 1, 404, 0]) := kg_112_0 (i := 1) rfl
theorem kc_112_4 : xe_code 112 4 = some (.ifCond .eq 15, [19]) := kg_112_0 (i := 2) rfl
theorem kc_112_7 : xe_code 112 7 = some (.aload_n 0, []) := kg_112_0 (i := 3) rfl
theorem kc_112_8 : xe_code 112 8 = some (.getfield 19, [0, 1, 370]) := kg_112_0 (i := 4) rfl
theorem kc_112_11 : xe_code 112 11 = some (.getfield 82, [9, 0, 203]) := kg_112_0 (i := 5) rfl
theorem kc_112_14 : xe_code 112 14 = some (.iload_n 1, []) := kg_112_0 (i := 6) rfl
theorem kc_112_15 : xe_code 112 15 = some (.iaload, []) := kg_112_0 (i := 7) rfl
theorem kc_112_16 : xe_code 112 16 = some (.goto 8, [24]) := kg_112_0 (i := 8) rfl
theorem kc_112_19 : xe_code 112 19 = some (.aload_n 0, []) := kg_112_0 (i := 9) rfl
theorem kc_112_20 : xe_code 112 20 = some (.iconst (-1), []) := kg_112_0 (i := 10) rfl
theorem kc_112_21 : xe_code 112 21 = some (.invokevirtual 72, [90, 1, 407, 0]) := kg_112_0 (i := 11) rfl
theorem kc_112_24 : xe_code 112 24 = some (.ireturn, []) := kg_112_0 (i := 12) rfl
theorem kc_113_0 : xe_code 113 0 = some (.aload_n 0, []) := kg_113_0 (i := 0) rfl
theorem kc_113_1 : xe_code 113 1 = some (.getfield 10, [0, 0, 369]) := kg_113_0 (i := 1) rfl
theorem kc_113_4 : xe_code 113 4 = some (.iload_n 1, []) := kg_113_0 (i := 2) rfl
theorem kc_113_5 : xe_code 113 5 = some (.invokevirtual 157, [108, 1, 515, 4]) := kg_113_0 (i := 3) rfl
theorem kc_113_8 : xe_code 113 8 = some (.ifCond .ne 9, [17]) := kg_113_0 (i := 4) rfl
theorem kc_113_11 : xe_code 113 11 = some (.aload_n 0, []) := kg_113_0 (i := 5) rfl
theorem kc_113_12 : xe_code 113 12 = some (.iconst (-1), []) := kg_113_0 (i := 6) rfl
theorem kc_113_13 : xe_code 113 13 = some (.invokevirtual 72, [90, 1, 407, 0]) := kg_113_0 (i := 7) rfl
theorem kc_113_16 : xe_code 113 16 = some (.ireturn, []) := kg_113_0 (i := 8) rfl
theorem kc_113_17 : xe_code 113 17 = some (.iload_n 2, []) := kg_113_0 (i := 9) rfl
theorem kc_113_18 : xe_code 113 18 = some (.aload_n 0, []) := kg_113_0 (i := 10) rfl
theorem kc_113_19 : xe_code 113 19 = some (.getfield 148, [0, 9, 378]) := kg_113_0 (i := 11) rfl
theorem kc_113_22 : xe_code 113 22 = some (.if_icmp .gt 14, [36]) := kg_113_0 (i := 12) rfl
theorem kc_113_25 : xe_code 113 25 = some (.aload_n 0, []) := kg_113_0 (i := 13) rfl
theorem kc_113_26 : xe_code 113 26 = some (.getfield 28, [0, 2, 371]) := kg_113_0 (i := 14) rfl
theorem kc_113_29 : xe_code 113 29 = some (.iload_n 2, []) := kg_113_0 (i := 15) rfl
theorem kc_113_30 : xe_code 113 30 = some (.invokevirtual 160, [114, 1, 516, 3]) := kg_113_0 (i := 16) rfl
theorem kc_113_33 : xe_code 113 33 = some (.ifCond .eq 10, [43]) := kg_113_0 (i := 17) rfl
theorem kc_113_36 : xe_code 113 36 = some (.aload_n 0, []) := kg_113_0 (i := 18) rfl
theorem kc_113_37 : xe_code 113 37 = some (.bipush (-3), []) := kg_113_0 (i := 19) rfl
theorem kc_113_39 : xe_code 113 39 = some (.invokevirtual 72, [90, 1, 407, 0]) := kg_113_0 (i := 20) rfl
theorem kc_113_42 : xe_code 113 42 = some (.ireturn, []) := kg_113_0 (i := 21) rfl
theorem kc_113_43 : xe_code 113 43 = some (.iload_n 2, []) := kg_113_0 (i := 22) rfl
theorem kc_113_44 : xe_code 113 44 = some (.ifCond .lt 12, [56]) := kg_113_0 (i := 23) rfl
theorem kc_113_47 : xe_code 113 47 = some (.iload_n 3, []) := kg_113_0 (i := 24) rfl
theorem kc_113_48 : xe_code 113 48 = some (.ifCond .lt 8, [56]) := kg_113_0 (i := 25) rfl
theorem kc_113_51 : xe_code 113 51 = some (.iload 4, []) := kg_113_0 (i := 26) rfl
theorem kc_113_53 : xe_code 113 53 = some (.ifCond .ge 10, [63]) := kg_113_0 (i := 27) rfl
theorem kc_113_56 : xe_code 113 56 = some (.aload_n 0, []) := kg_113_0 (i := 28) rfl
theorem kc_113_57 : xe_code 113 57 = some (.bipush (-4), []) := kg_113_0 (i := 29) rfl
theorem kc_113_59 : xe_code 113 59 = some (.invokevirtual 72, [90, 1, 407, 0]) := kg_113_0 (i := 30) rfl
theorem kc_113_62 : xe_code 113 62 = some (.ireturn, []) := kg_113_0 (i := 31) rfl
theorem kc_113_63 : xe_code 113 63 = some (.iload_n 3, []) := kg_113_0 (i := 32) rfl
theorem kc_113_64 : xe_code 113 64 = some (.ldc 163, [99999, 520]) := kg_113_0 (i := 33) rfl
theorem kc_113_66 : xe_code 113 66 = some (.if_icmp .gt 23, [89]) := kg_113_0 (i := 34) rfl
theorem kc_113_69 : xe_code 113 69 = some (.iload 4, []) := kg_113_0 (i := 35) rfl
theorem kc_113_71 : xe_code 113 71 = some (.sipush 999, []) := kg_113_0 (i := 36) rfl
theorem kc_113_74 : xe_code 113 74 = some (.if_icmp .gt 15, [89]) := kg_113_0 (i := 37) rfl
theorem kc_113_77 : xe_code 113 77 = some (.aload_n 0, []) := kg_113_0 (i := 38) rfl
theorem kc_113_78 : xe_code 113 78 = some (.getfield 28, [0, 2, 371]) := kg_113_0 (i := 39) rfl
theorem kc_113_81 : xe_code 113 81 = some (.getfield 164, [3, 8, 241]) := kg_113_0 (i := 40) rfl
theorem kc_113_84 : xe_code 113 84 = some (.bipush 60, []) := kg_113_0 (i := 41) rfl
theorem kc_113_86 : xe_code 113 86 = some (.if_icmp .lt 10, [96]) := kg_113_0 (i := 42) rfl
theorem kc_113_89 : xe_code 113 89 = some (.aload_n 0, []) := kg_113_0 (i := 43) rfl
theorem kc_113_90 : xe_code 113 90 = some (.bipush (-6), []) := kg_113_0 (i := 44) rfl
theorem kc_113_92 : xe_code 113 92 = some (.invokevirtual 72, [90, 1, 407, 0]) := kg_113_0 (i := 45) rfl
theorem kc_113_95 : xe_code 113 95 = some (.ireturn, []) := kg_113_0 (i := 46) rfl
theorem kc_113_96 : xe_code 113 96 = some (.aload_n 0, []) := kg_113_0 (i := 47) rfl
theorem kc_113_97 : xe_code 113 97 = some (.getfield 28, [0, 2, 371]) := kg_113_1 (i := 0) rfl
theorem kc_113_100 : xe_code 113 100 = some (.invokevirtual 85, [91, 0, 415, 3]) := kg_113_1 (i := 1) rfl
theorem kc_113_103 : xe_code 113 103 = some (.aload_n 0, []) := kg_113_1 (i := 2) rfl
theorem kc_113_104 : xe_code 113 104 = some (.getfield 28, [0, 2, 371]) := kg_113_1 (i := 3) rfl
theorem kc_113_107 : xe_code 113 107 = some (.iload_n 1, []) := kg_113_1 (i := 4) rfl
theorem kc_113_108 : xe_code 113 108 = some (.iload_n 2, []) := kg_113_1 (i := 5) rfl
theorem kc_113_109 : xe_code 113 109 = some (.iload_n 3, []) := kg_113_1 (i := 6) rfl
theorem kc_113_110 : xe_code 113 110 = some (.iload 4, []) := kg_113_1 (i := 7) rfl
theorem kc_113_112 : xe_code 113 112 = some (.isub, []) := kg_113_1 (i := 8) rfl
theorem kc_113_113 : xe_code 113 113 = some (.iload_n 3, []) := kg_113_1 (i := 9) rfl
theorem kc_113_114 : xe_code 113 114 = some (.iload 4, []) := kg_113_1 (i := 10) rfl
theorem kc_113_116 : xe_code 113 116 = some (.iadd, []) := kg_113_1 (i := 11) rfl
theorem kc_113_117 : xe_code 113 117 = some (.invokevirtual 167, [115, 4, 521, 3]) := kg_113_1 (i := 12) rfl
theorem kc_113_120 : xe_code 113 120 = some (.ireturn, []) := kg_113_1 (i := 13) rfl
theorem kc_114_0 : xe_code 114 0 = some (.aload_n 0, []) := kg_114_0 (i := 0) rfl
theorem kc_114_1 : xe_code 114 1 = some (.getfield 43, [3, 8, 240]) := kg_114_0 (i := 1) rfl
theorem kc_114_4 : xe_code 114 4 = some (.ifCond .le 31, [35]) := kg_114_0 (i := 2) rfl
theorem kc_114_7 : xe_code 114 7 = some (.aload_n 0, []) := kg_114_0 (i := 3) rfl
theorem kc_114_8 : xe_code 114 8 = some (.getfield 43, [3, 8, 240]) := kg_114_0 (i := 4) rfl
theorem kc_114_11 : xe_code 114 11 = some (.bipush 60, []) := kg_114_0 (i := 5) rfl
theorem kc_114_13 : xe_code 114 13 = some (.if_icmp .gt 22, [35]) := kg_114_0 (i := 6) rfl
theorem kc_114_16 : xe_code 114 16 = some (.iload_n 1, []) := kg_114_0 (i := 7) rfl
theorem kc_114_17 : xe_code 114 17 = some (.aload_n 0, []) := kg_114_0 (i := 8) rfl
theorem kc_114_18 : xe_code 114 18 = some (.getfield 22, [3, 3, 235]) := kg_114_0 (i := 9) rfl
theorem kc_114_21 : xe_code 114 21 = some (.aload_n 0, []) := kg_114_0 (i := 10) rfl
theorem kc_114_22 : xe_code 114 22 = some (.getfield 43, [3, 8, 240]) := kg_114_0 (i := 11) rfl
theorem kc_114_25 : xe_code 114 25 = some (.iconst 1, []) := kg_114_0 (i := 12) rfl
theorem kc_114_26 : xe_code 114 26 = some (.isub, []) := kg_114_0 (i := 13) rfl
theorem kc_114_27 : xe_code 114 27 = some (.iaload, []) := kg_114_0 (i := 14) rfl
theorem kc_114_28 : xe_code 114 28 = some (.if_icmp .ge 7, [35]) := kg_114_0 (i := 15) rfl
theorem kc_114_31 : xe_code 114 31 = some (.iconst 1, []) := kg_114_0 (i := 16) rfl
theorem kc_114_32 : xe_code 114 32 = some (.goto 4, [36]) := kg_114_0 (i := 17) rfl
theorem kc_114_35 : xe_code 114 35 = some (.iconst 0, []) := kg_114_0 (i := 18) rfl
theorem kc_114_36 : xe_code 114 36 = some (.ireturn, []) := kg_114_0 (i := 19) rfl
theorem kc_115_0 : xe_code 115 0 = some (.aload_n 0, []) := kg_115_0 (i := 0) rfl
theorem kc_115_1 : xe_code 115 1 = some (.getfield 43, [3, 8, 240]) := kg_115_0 (i := 1) rfl
theorem kc_115_4 : xe_code 115 4 = some (.bipush 60, []) := kg_115_0 (i := 2) rfl
theorem kc_115_6 : xe_code 115 6 = some (.if_icmp .lt 6, [12]) := kg_115_0 (i := 3) rfl
theorem kc_115_9 : xe_code 115 9 = some (.bipush (-9), []) := kg_115_0 (i := 4) rfl
theorem kc_115_11 : xe_code 115 11 = some (.ireturn, []) := kg_115_0 (i := 5) rfl
theorem kc_115_12 : xe_code 115 12 = some (.aload_n 0, []) := kg_115_0 (i := 6) rfl
theorem kc_115_13 : xe_code 115 13 = some (.getfield 18, [3, 2, 234]) := kg_115_0 (i := 7) rfl
theorem kc_115_16 : xe_code 115 16 = some (.aload_n 0, []) := kg_115_0 (i := 8) rfl
theorem kc_115_17 : xe_code 115 17 = some (.getfield 43, [3, 8, 240]) := kg_115_0 (i := 9) rfl
theorem kc_115_20 : xe_code 115 20 = some (.iload_n 1, []) := kg_115_0 (i := 10) rfl
theorem kc_115_21 : xe_code 115 21 = some (.iastore, []) := kg_115_0 (i := 11) rfl
theorem kc_115_22 : xe_code 115 22 = some (.aload_n 0, []) := kg_115_0 (i := 12) rfl
theorem kc_115_23 : xe_code 115 23 = some (.getfield 22, [3, 3, 235]) := kg_115_0 (i := 13) rfl
theorem kc_115_26 : xe_code 115 26 = some (.aload_n 0, []) := kg_115_0 (i := 14) rfl
theorem kc_115_27 : xe_code 115 27 = some (.getfield 43, [3, 8, 240]) := kg_115_0 (i := 15) rfl
theorem kc_115_30 : xe_code 115 30 = some (.iload_n 2, []) := kg_115_0 (i := 16) rfl
theorem kc_115_31 : xe_code 115 31 = some (.iastore, []) := kg_115_0 (i := 17) rfl
theorem kc_115_32 : xe_code 115 32 = some (.aload_n 0, []) := kg_115_0 (i := 18) rfl
theorem kc_115_33 : xe_code 115 33 = some (.getfield 25, [3, 4, 236]) := kg_115_0 (i := 19) rfl
theorem kc_115_36 : xe_code 115 36 = some (.aload_n 0, []) := kg_115_0 (i := 20) rfl
theorem kc_115_37 : xe_code 115 37 = some (.getfield 43, [3, 8, 240]) := kg_115_0 (i := 21) rfl
theorem kc_115_40 : xe_code 115 40 = some (.iload_n 3, []) := kg_115_0 (i := 22) rfl
theorem kc_115_41 : xe_code 115 41 = some (.iastore, []) := kg_115_0 (i := 23) rfl
theorem kc_115_42 : xe_code 115 42 = some (.aload_n 0, []) := kg_115_0 (i := 24) rfl
theorem kc_115_43 : xe_code 115 43 = some (.getfield 28, [3, 5, 237]) := kg_115_0 (i := 25) rfl
theorem kc_115_46 : xe_code 115 46 = some (.aload_n 0, []) := kg_115_0 (i := 26) rfl
theorem kc_115_47 : xe_code 115 47 = some (.getfield 43, [3, 8, 240]) := kg_115_0 (i := 27) rfl
theorem kc_115_50 : xe_code 115 50 = some (.iload 4, []) := kg_115_0 (i := 28) rfl
theorem kc_115_52 : xe_code 115 52 = some (.iastore, []) := kg_115_0 (i := 29) rfl
theorem kc_115_53 : xe_code 115 53 = some (.aload_n 0, []) := kg_115_0 (i := 30) rfl
theorem kc_115_54 : xe_code 115 54 = some (.dup, []) := kg_115_0 (i := 31) rfl
theorem kc_115_55 : xe_code 115 55 = some (.getfield 43, [3, 8, 240]) := kg_115_0 (i := 32) rfl
theorem kc_115_58 : xe_code 115 58 = some (.iconst 1, []) := kg_115_0 (i := 33) rfl
theorem kc_115_59 : xe_code 115 59 = some (.iadd, []) := kg_115_0 (i := 34) rfl
theorem kc_115_60 : xe_code 115 60 = some (.putfield 43, [3, 8, 240]) := kg_115_0 (i := 35) rfl
theorem kc_115_63 : xe_code 115 63 = some (.aload_n 0, []) := kg_115_0 (i := 36) rfl
theorem kc_115_64 : xe_code 115 64 = some (.getfield 43, [3, 8, 240]) := kg_115_0 (i := 37) rfl
theorem kc_115_67 : xe_code 115 67 = some (.iconst 1, []) := kg_115_0 (i := 38) rfl
theorem kc_115_68 : xe_code 115 68 = some (.isub, []) := kg_115_0 (i := 39) rfl
theorem kc_115_69 : xe_code 115 69 = some (.ireturn, []) := kg_115_0 (i := 40) rfl
theorem kc_116_0 : xe_code 116 0 = some (.iload_n 1, []) := kg_116_0 (i := 0) rfl
theorem kc_116_1 : xe_code 116 1 = some (.invokestatic 171, [117, 1, 529, 0]) := kg_116_0 (i := 1) rfl
theorem kc_116_4 : xe_code 116 4 = some (.ifCond .ne 10, [14]) := kg_116_0 (i := 2) rfl
theorem kc_116_7 : xe_code 116 7 = some (.aload_n 0, []) := kg_116_0 (i := 3) rfl
theorem kc_116_8 : xe_code 116 8 = some (.bipush (-2), []) := kg_116_0 (i := 4) rfl
theorem kc_116_10 : xe_code 116 10 = some (.invokevirtual 72, [90, 1, 407, 0]) := kg_116_0 (i := 5) rfl
theorem kc_116_13 : xe_code 116 13 = some (.ireturn, []) := kg_116_0 (i := 6) rfl
theorem kc_116_14 : xe_code 116 14 = some (.aload_n 0, []) := kg_116_0 (i := 7) rfl
theorem kc_116_15 : xe_code 116 15 = some (.getfield 10, [0, 0, 369]) := kg_116_0 (i := 8) rfl
theorem kc_116_18 : xe_code 116 18 = some (.iload_n 1, []) := kg_116_0 (i := 9) rfl
theorem kc_116_19 : xe_code 116 19 = some (.iload_n 2, []) := kg_116_0 (i := 10) rfl
theorem kc_116_20 : xe_code 116 20 = some (.invokevirtual 174, [118, 2, 532, 4]) := kg_116_0 (i := 11) rfl
theorem kc_116_23 : xe_code 116 23 = some (.ifCond .ne 9, [32]) := kg_116_0 (i := 12) rfl
theorem kc_116_26 : xe_code 116 26 = some (.aload_n 0, []) := kg_116_0 (i := 13) rfl
theorem kc_116_27 : xe_code 116 27 = some (.iconst (-1), []) := kg_116_0 (i := 14) rfl
theorem kc_116_28 : xe_code 116 28 = some (.invokevirtual 72, [90, 1, 407, 0]) := kg_116_0 (i := 15) rfl
theorem kc_116_31 : xe_code 116 31 = some (.ireturn, []) := kg_116_0 (i := 16) rfl
theorem kc_116_32 : xe_code 116 32 = some (.iload_n 3, []) := kg_116_0 (i := 17) rfl
theorem kc_116_33 : xe_code 116 33 = some (.iconst 1, []) := kg_116_0 (i := 18) rfl
theorem kc_116_34 : xe_code 116 34 = some (.if_icmp .lt 8, [42]) := kg_116_0 (i := 19) rfl
theorem kc_116_37 : xe_code 116 37 = some (.iload 4, []) := kg_116_0 (i := 20) rfl
theorem kc_116_39 : xe_code 116 39 = some (.ifCond .ge 10, [49]) := kg_116_0 (i := 21) rfl
theorem kc_116_42 : xe_code 116 42 = some (.aload_n 0, []) := kg_116_0 (i := 22) rfl
theorem kc_116_43 : xe_code 116 43 = some (.bipush (-4), []) := kg_116_0 (i := 23) rfl
theorem kc_116_45 : xe_code 116 45 = some (.invokevirtual 72, [90, 1, 407, 0]) := kg_116_0 (i := 24) rfl
theorem kc_116_48 : xe_code 116 48 = some (.ireturn, []) := kg_116_0 (i := 25) rfl
theorem kc_116_49 : xe_code 116 49 = some (.iload_n 3, []) := kg_116_0 (i := 26) rfl
theorem kc_116_50 : xe_code 116 50 = some (.bipush 99, []) := kg_116_0 (i := 27) rfl
theorem kc_116_52 : xe_code 116 52 = some (.if_icmp .gt 23, [75]) := kg_116_0 (i := 28) rfl
theorem kc_116_55 : xe_code 116 55 = some (.iload 4, []) := kg_116_0 (i := 29) rfl
theorem kc_116_57 : xe_code 116 57 = some (.sipush 600, []) := kg_116_0 (i := 30) rfl
theorem kc_116_60 : xe_code 116 60 = some (.if_icmp .gt 15, [75]) := kg_116_0 (i := 31) rfl
theorem kc_116_63 : xe_code 116 63 = some (.aload_n 0, []) := kg_116_0 (i := 32) rfl
theorem kc_116_64 : xe_code 116 64 = some (.getfield 10, [0, 0, 369]) := kg_116_0 (i := 33) rfl
theorem kc_116_67 : xe_code 116 67 = some (.getfield 178, [4, 5, 178]) := kg_116_0 (i := 34) rfl
theorem kc_116_70 : xe_code 116 70 = some (.bipush 10, []) := kg_116_0 (i := 35) rfl
theorem kc_116_72 : xe_code 116 72 = some (.if_icmp .lt 10, [82]) := kg_116_0 (i := 36) rfl
theorem kc_116_75 : xe_code 116 75 = some (.aload_n 0, []) := kg_116_0 (i := 37) rfl
theorem kc_116_76 : xe_code 116 76 = some (.bipush (-6), []) := kg_116_0 (i := 38) rfl
theorem kc_116_78 : xe_code 116 78 = some (.invokevirtual 72, [90, 1, 407, 0]) := kg_116_0 (i := 39) rfl
theorem kc_116_81 : xe_code 116 81 = some (.ireturn, []) := kg_116_0 (i := 40) rfl
theorem kc_116_82 : xe_code 116 82 = some (.aload_n 0, []) := kg_116_0 (i := 41) rfl
theorem kc_116_83 : xe_code 116 83 = some (.getfield 10, [0, 0, 369]) := kg_116_0 (i := 42) rfl
theorem kc_116_86 : xe_code 116 86 = some (.iload_n 1, []) := kg_116_0 (i := 43) rfl
theorem kc_116_87 : xe_code 116 87 = some (.iload_n 2, []) := kg_116_0 (i := 44) rfl
theorem kc_116_88 : xe_code 116 88 = some (.iload_n 3, []) := kg_116_0 (i := 45) rfl
theorem kc_116_89 : xe_code 116 89 = some (.iload 4, []) := kg_116_0 (i := 46) rfl
theorem kc_116_91 : xe_code 116 91 = some (.invokevirtual 181, [119, 4, 536, 4]) := kg_116_0 (i := 47) rfl
theorem kc_116_94 : xe_code 116 94 = some (.ireturn, []) := kg_116_1 (i := 0) rfl
theorem kc_117_0 : xe_code 117 0 = some (.iload_n 0, []) := kg_117_0 (i := 0) rfl
theorem kc_117_1 : xe_code 117 1 = some (.ifCond .lt 12, [13]) := kg_117_0 (i := 1) rfl
theorem kc_117_4 : xe_code 117 4 = some (.iload_n 0, []) := kg_117_0 (i := 2) rfl
theorem kc_117_5 : xe_code 117 5 = some (.iconst 4, []) := kg_117_0 (i := 3) rfl
theorem kc_117_6 : xe_code 117 6 = some (.if_icmp .ge 7, [13]) := kg_117_0 (i := 4) rfl
theorem kc_117_9 : xe_code 117 9 = some (.iconst 1, []) := kg_117_0 (i := 5) rfl
theorem kc_117_10 : xe_code 117 10 = some (.goto 4, [14]) := kg_117_0 (i := 6) rfl
theorem kc_117_13 : xe_code 117 13 = some (.iconst 0, []) := kg_117_0 (i := 7) rfl
theorem kc_117_14 : xe_code 117 14 = some (.ireturn, []) := kg_117_0 (i := 8) rfl
theorem kc_118_0 : xe_code 118 0 = some (.iload_n 1, []) := kg_118_0 (i := 0) rfl
theorem kc_118_1 : xe_code 118 1 = some (.iconst 3, []) := kg_118_0 (i := 1) rfl
theorem kc_118_2 : xe_code 118 2 = some (.if_icmp .ne 8, [10]) := kg_118_0 (i := 2) rfl
theorem kc_118_5 : xe_code 118 5 = some (.iload_n 2, []) := kg_118_0 (i := 3) rfl
theorem kc_118_6 : xe_code 118 6 = some (.invokestatic 48, [89, 1, 423, 0]) := kg_118_0 (i := 4) rfl
theorem kc_118_9 : xe_code 118 9 = some (.ireturn, []) := kg_118_0 (i := 5) rfl
theorem kc_118_10 : xe_code 118 10 = some (.aload_n 0, []) := kg_118_0 (i := 6) rfl
theorem kc_118_11 : xe_code 118 11 = some (.iload_n 2, []) := kg_118_0 (i := 7) rfl
theorem kc_118_12 : xe_code 118 12 = some (.invokevirtual 72, [108, 1, 488, 4]) := kg_118_0 (i := 8) rfl
theorem kc_118_15 : xe_code 118 15 = some (.ifCond .eq 23, [38]) := kg_118_0 (i := 9) rfl
theorem kc_118_18 : xe_code 118 18 = some (.iload_n 1, []) := kg_118_0 (i := 10) rfl
theorem kc_118_19 : xe_code 118 19 = some (.ifCond .ne 15, [34]) := kg_118_0 (i := 11) rfl
theorem kc_118_22 : xe_code 118 22 = some (.aload_n 0, []) := kg_118_0 (i := 12) rfl
theorem kc_118_23 : xe_code 118 23 = some (.getfield 19, [4, 1, 172]) := kg_118_0 (i := 13) rfl
theorem kc_118_26 : xe_code 118 26 = some (.iload_n 2, []) := kg_118_0 (i := 14) rfl
theorem kc_118_27 : xe_code 118 27 = some (.aaload, []) := kg_118_0 (i := 15) rfl
theorem kc_118_28 : xe_code 118 28 = some (.getfield 75, [11, 2, 136]) := kg_118_0 (i := 16) rfl
theorem kc_118_31 : xe_code 118 31 = some (.ifCond .eq 7, [38]) := kg_118_0 (i := 17) rfl
theorem kc_118_34 : xe_code 118 34 = some (.iconst 1, []) := kg_118_0 (i := 18) rfl
theorem kc_118_35 : xe_code 118 35 = some (.goto 4, [39]) := kg_118_0 (i := 19) rfl
theorem kc_118_38 : xe_code 118 38 = some (.iconst 0, []) := kg_118_0 (i := 20) rfl
theorem kc_118_39 : xe_code 118 39 = some (.ireturn, []) := kg_118_0 (i := 21) rfl
theorem kc_119_0 : xe_code 119 0 = some (.aload_n 0, []) := kg_119_0 (i := 0) rfl
theorem kc_119_1 : xe_code 119 1 = some (.getfield 79, [4, 5, 177]) := kg_119_0 (i := 1) rfl
theorem kc_119_4 : xe_code 119 4 = some (.bipush 10, []) := kg_119_0 (i := 2) rfl
theorem kc_119_6 : xe_code 119 6 = some (.if_icmp .lt 6, [12]) := kg_119_0 (i := 3) rfl
theorem kc_119_9 : xe_code 119 9 = some (.bipush (-9), []) := kg_119_0 (i := 4) rfl
theorem kc_119_11 : xe_code 119 11 = some (.ireturn, []) := kg_119_0 (i := 5) rfl
theorem kc_119_12 : xe_code 119 12 = some (.aload_n 0, []) := kg_119_0 (i := 6) rfl
theorem kc_119_13 : xe_code 119 13 = some (.getfield 25, [4, 2, 174]) := kg_119_0 (i := 7) rfl
theorem kc_119_16 : xe_code 119 16 = some (.aload_n 0, []) := kg_119_0 (i := 8) rfl
theorem kc_119_17 : xe_code 119 17 = some (.getfield 79, [4, 5, 177]) := kg_119_0 (i := 9) rfl
theorem kc_119_20 : xe_code 119 20 = some (.aaload, []) := kg_119_0 (i := 10) rfl
theorem kc_119_21 : xe_code 119 21 = some (.astore 5, []) := kg_119_0 (i := 11) rfl
theorem kc_119_23 : xe_code 119 23 = some (.aload 5, []) := kg_119_0 (i := 12) rfl
theorem kc_119_25 : xe_code 119 25 = some (.iload_n 1, []) := kg_119_0 (i := 13) rfl
theorem kc_119_26 : xe_code 119 26 = some (.putfield 82, [1, 0, 157]) := kg_119_0 (i := 14) rfl
theorem kc_119_29 : xe_code 119 29 = some (.aload 5, []) := kg_119_0 (i := 15) rfl
theorem kc_119_31 : xe_code 119 31 = some (.iload_n 2, []) := kg_119_0 (i := 16) rfl
theorem kc_119_32 : xe_code 119 32 = some (.putfield 85, [1, 1, 158]) := kg_119_0 (i := 17) rfl
theorem kc_119_35 : xe_code 119 35 = some (.aload 5, []) := kg_119_0 (i := 18) rfl
theorem kc_119_37 : xe_code 119 37 = some (.iload_n 3, []) := kg_119_0 (i := 19) rfl
theorem kc_119_38 : xe_code 119 38 = some (.putfield 88, [1, 2, 159]) := kg_119_0 (i := 20) rfl
theorem kc_119_41 : xe_code 119 41 = some (.aload 5, []) := kg_119_0 (i := 21) rfl
theorem kc_119_43 : xe_code 119 43 = some (.iload 4, []) := kg_119_0 (i := 22) rfl
theorem kc_119_45 : xe_code 119 45 = some (.putfield 91, [1, 3, 160]) := kg_119_0 (i := 23) rfl
theorem kc_119_48 : xe_code 119 48 = some (.aload_n 0, []) := kg_119_0 (i := 24) rfl
theorem kc_119_49 : xe_code 119 49 = some (.dup, []) := kg_119_0 (i := 25) rfl
theorem kc_119_50 : xe_code 119 50 = some (.getfield 79, [4, 5, 177]) := kg_119_0 (i := 26) rfl
theorem kc_119_53 : xe_code 119 53 = some (.iconst 1, []) := kg_119_0 (i := 27) rfl
theorem kc_119_54 : xe_code 119 54 = some (.iadd, []) := kg_119_0 (i := 28) rfl
theorem kc_119_55 : xe_code 119 55 = some (.putfield 79, [4, 5, 177]) := kg_119_0 (i := 29) rfl
theorem kc_119_58 : xe_code 119 58 = some (.aload_n 0, []) := kg_119_0 (i := 30) rfl
theorem kc_119_59 : xe_code 119 59 = some (.getfield 79, [4, 5, 177]) := kg_119_0 (i := 31) rfl
theorem kc_119_62 : xe_code 119 62 = some (.iconst 1, []) := kg_119_0 (i := 32) rfl
theorem kc_119_63 : xe_code 119 63 = some (.isub, []) := kg_119_0 (i := 33) rfl
theorem kc_119_64 : xe_code 119 64 = some (.ireturn, []) := kg_119_0 (i := 34) rfl
theorem kc_120_0 : xe_code 120 0 = some (.iload_n 1, []) := kg_120_0 (i := 0) rfl
theorem kc_120_1 : xe_code 120 1 = some (.ifCond .lt 14, [15]) := kg_120_0 (i := 1) rfl
theorem kc_120_4 : xe_code 120 4 = some (.iload_n 1, []) := kg_120_0 (i := 2) rfl
theorem kc_120_5 : xe_code 120 5 = some (.aload_n 0, []) := kg_120_0 (i := 3) rfl
theorem kc_120_6 : xe_code 120 6 = some (.getfield 10, [0, 0, 369]) := kg_120_0 (i := 4) rfl
theorem kc_120_9 : xe_code 120 9 = some (.getfield 178, [4, 5, 178]) := kg_120_0 (i := 5) rfl
theorem kc_120_12 : xe_code 120 12 = some (.if_icmp .lt 9, [21]) := kg_120_0 (i := 6) rfl
theorem kc_120_15 : xe_code 120 15 = some (.aload_n 0, []) := kg_120_0 (i := 7) rfl
theorem kc_120_16 : xe_code 120 16 = some (.iconst (-1), []) := kg_120_0 (i := 8) rfl
theorem kc_120_17 : xe_code 120 17 = some (.invokevirtual 72, [90, 1, 407, 0]) := kg_120_0 (i := 9) rfl
theorem kc_120_20 : xe_code 120 20 = some (.ireturn, []) := kg_120_0 (i := 10) rfl
theorem kc_120_21 : xe_code 120 21 = some (.iconst 1, []) := kg_120_0 (i := 11) rfl
theorem kc_120_22 : xe_code 120 22 = some (.iload_n 1, []) := kg_120_0 (i := 12) rfl
theorem kc_120_23 : xe_code 120 23 = some (.ishl, []) := kg_120_0 (i := 13) rfl
theorem kc_120_24 : xe_code 120 24 = some (.istore_n 3, []) := kg_120_0 (i := 14) rfl
theorem kc_120_25 : xe_code 120 25 = some (.aload_n 0, []) := kg_120_0 (i := 15) rfl
theorem kc_120_26 : xe_code 120 26 = some (.getfield 19, [0, 1, 370]) := kg_120_0 (i := 16) rfl
theorem kc_120_29 : xe_code 120 29 = some (.getfield 184, [9, 2, 210]) := kg_120_0 (i := 17) rfl
theorem kc_120_32 : xe_code 120 32 = some (.iload_n 3, []) := kg_120_0 (i := 18) rfl
theorem kc_120_33 : xe_code 120 33 = some (.iand, []) := kg_120_0 (i := 19) rfl
theorem kc_120_34 : xe_code 120 34 = some (.ifCond .eq 7, [41]) := kg_120_0 (i := 20) rfl
theorem kc_120_37 : xe_code 120 37 = some (.iconst 1, []) := kg_120_0 (i := 21) rfl
theorem kc_120_38 : xe_code 120 38 = some (.goto 4, [42]) := kg_120_0 (i := 22) rfl
theorem kc_120_41 : xe_code 120 41 = some (.iconst 0, []) := kg_120_0 (i := 23) rfl
theorem kc_120_42 : xe_code 120 42 = some (.istore 4, []) := kg_120_0 (i := 24) rfl
theorem kc_120_44 : xe_code 120 44 = some (.iload 4, []) := kg_120_0 (i := 25) rfl
theorem kc_120_46 : xe_code 120 46 = some (.iload_n 2, []) := kg_120_0 (i := 26) rfl
theorem kc_120_47 : xe_code 120 47 = some (.if_icmp .ne 5, [52]) := kg_120_0 (i := 27) rfl
theorem kc_120_50 : xe_code 120 50 = some (.iconst 0, []) := kg_120_0 (i := 28) rfl
theorem kc_120_51 : xe_code 120 51 = some (.ireturn, []) := kg_120_0 (i := 29) rfl
theorem kc_120_52 : xe_code 120 52 = some (.aload_n 0, []) := kg_120_0 (i := 30) rfl
theorem kc_120_53 : xe_code 120 53 = some (.getfield 19, [0, 1, 370]) := kg_120_0 (i := 31) rfl
theorem kc_120_56 : xe_code 120 56 = some (.dup, []) := kg_120_0 (i := 32) rfl
theorem kc_120_57 : xe_code 120 57 = some (.getfield 184, [9, 2, 210]) := kg_120_0 (i := 33) rfl
theorem kc_120_60 : xe_code 120 60 = some (.iload_n 3, []) := kg_120_0 (i := 34) rfl
theorem kc_120_61 : xe_code 120 61 = some (.ixor, []) := kg_120_0 (i := 35) rfl
theorem kc_120_62 : xe_code 120 62 = some (.putfield 184, [9, 2, 210]) := kg_120_0 (i := 36) rfl
theorem kc_120_65 : xe_code 120 65 = some (.iconst 1, []) := kg_120_0 (i := 37) rfl
theorem kc_120_66 : xe_code 120 66 = some (.ireturn, []) := kg_120_0 (i := 38) rfl
theorem kc_121_0 : xe_code 121 0 = some (.iload_n 1, []) := kg_121_0 (i := 0) rfl
theorem kc_121_1 : xe_code 121 1 = some (.iconst 1, []) := kg_121_0 (i := 1) rfl
theorem kc_121_2 : xe_code 121 2 = some (.if_icmp .ge 10, [12]) := kg_121_0 (i := 2) rfl
theorem kc_121_5 : xe_code 121 5 = some (.aload_n 0, []) := kg_121_0 (i := 3) rfl
theorem kc_121_6 : xe_code 121 6 = some (.bipush (-4), []) := kg_121_0 (i := 4) rfl
theorem kc_121_8 : xe_code 121 8 = some (.invokevirtual 72, [90, 1, 407, 0]) := kg_121_0 (i := 5) rfl
theorem kc_121_11 : xe_code 121 11 = some (.ireturn, []) := kg_121_0 (i := 6) rfl
theorem kc_121_12 : xe_code 121 12 = some (.iload_n 1, []) := kg_121_0 (i := 7) rfl
theorem kc_121_13 : xe_code 121 13 = some (.sipush 600, []) := kg_121_0 (i := 8) rfl
theorem kc_121_16 : xe_code 121 16 = some (.aload_n 0, []) := kg_121_0 (i := 9) rfl
theorem kc_121_17 : xe_code 121 17 = some (.getfield 148, [0, 9, 378]) := kg_121_0 (i := 10) rfl
theorem kc_121_20 : xe_code 121 20 = some (.isub, []) := kg_121_0 (i := 11) rfl
theorem kc_121_21 : xe_code 121 21 = some (.if_icmp .le 10, [31]) := kg_121_0 (i := 12) rfl
theorem kc_121_24 : xe_code 121 24 = some (.aload_n 0, []) := kg_121_0 (i := 13) rfl
theorem kc_121_25 : xe_code 121 25 = some (.bipush (-6), []) := kg_121_0 (i := 14) rfl
theorem kc_121_27 : xe_code 121 27 = some (.invokevirtual 72, [90, 1, 407, 0]) := kg_121_0 (i := 15) rfl
theorem kc_121_30 : xe_code 121 30 = some (.ireturn, []) := kg_121_0 (i := 16) rfl
theorem kc_121_31 : xe_code 121 31 = some (.aload_n 0, []) := kg_121_0 (i := 17) rfl
theorem kc_121_32 : xe_code 121 32 = some (.getfield 28, [0, 2, 371]) := kg_121_0 (i := 18) rfl
theorem kc_121_35 : xe_code 121 35 = some (.invokevirtual 85, [91, 0, 415, 3]) := kg_121_0 (i := 19) rfl
theorem kc_121_38 : xe_code 121 38 = some (.iconst 0, []) := kg_121_0 (i := 20) rfl
theorem kc_121_39 : xe_code 121 39 = some (.istore_n 2, []) := kg_121_0 (i := 21) rfl
theorem kc_121_40 : xe_code 121 40 = some (.iload_n 2, []) := kg_121_0 (i := 22) rfl
theorem kc_121_41 : xe_code 121 41 = some (.iload_n 1, []) := kg_121_0 (i := 23) rfl
theorem kc_121_42 : xe_code 121 42 = some (.if_icmp .ge 13, [55]) := kg_121_0 (i := 24) rfl
theorem kc_121_45 : xe_code 121 45 = some (.aload_n 0, []) := kg_121_0 (i := 25) rfl
theorem kc_121_46 : xe_code 121 46 = some (.invokevirtual 187, [122, 0, 548, 0]) := kg_121_0 (i := 26) rfl
theorem kc_121_49 : xe_code 121 49 = some (.iinc 2 1, []) := kg_121_0 (i := 27) rfl
theorem kc_121_52 : xe_code 121 52 = some (.goto (-12), [40]) := kg_121_0 (i := 28) rfl
theorem kc_121_55 : xe_code 121 55 = some (.aload_n 0, []) := kg_121_0 (i := 29) rfl
theorem kc_121_56 : xe_code 121 56 = some (.getfield 148, [0, 9, 378]) := kg_121_0 (i := 30) rfl
theorem kc_121_59 : xe_code 121 59 = some (.ireturn, []) := kg_121_0 (i := 31) rfl
theorem kc_122_0 : xe_code 122 0 = some (.aload_n 0, []) := kg_122_0 (i := 0) rfl
theorem kc_122_1 : xe_code 122 1 = some (.invokevirtual 318, [123, 0, 552, 0]) := kg_122_0 (i := 1) rfl
theorem kc_122_4 : xe_code 122 4 = some (.aload_n 0, []) := kg_122_0 (i := 2) rfl
theorem kc_122_5 : xe_code 122 5 = some (.getfield 10, [0, 0, 369]) := kg_122_0 (i := 3) rfl
theorem kc_122_8 : xe_code 122 8 = some (.aload_n 0, []) := kg_122_0 (i := 4) rfl
theorem kc_122_9 : xe_code 122 9 = some (.getfield 19, [0, 1, 370]) := kg_122_0 (i := 5) rfl
theorem kc_122_12 : xe_code 122 12 = some (.aload_n 0, []) := kg_122_0 (i := 6) rfl
theorem kc_122_13 : xe_code 122 13 = some (.getfield 148, [0, 9, 378]) := kg_122_0 (i := 7) rfl
theorem kc_122_16 : xe_code 122 16 = some (.invokevirtual 321, [124, 2, 556, 4]) := kg_122_0 (i := 8) rfl
theorem kc_122_19 : xe_code 122 19 = some (.aload_n 0, []) := kg_122_0 (i := 9) rfl
theorem kc_122_20 : xe_code 122 20 = some (.getfield 10, [0, 0, 369]) := kg_122_0 (i := 10) rfl
theorem kc_122_23 : xe_code 122 23 = some (.aload_n 0, []) := kg_122_0 (i := 11) rfl
theorem kc_122_24 : xe_code 122 24 = some (.getfield 19, [0, 1, 370]) := kg_122_0 (i := 12) rfl
theorem kc_122_27 : xe_code 122 27 = some (.aload_n 0, []) := kg_122_0 (i := 13) rfl
theorem kc_122_28 : xe_code 122 28 = some (.getfield 148, [0, 9, 378]) := kg_122_0 (i := 14) rfl
theorem kc_122_31 : xe_code 122 31 = some (.invokevirtual 325, [135, 2, 605, 4]) := kg_122_0 (i := 15) rfl
theorem kc_122_34 : xe_code 122 34 = some (.aload_n 0, []) := kg_122_0 (i := 16) rfl
theorem kc_122_35 : xe_code 122 35 = some (.dup, []) := kg_122_0 (i := 17) rfl
theorem kc_122_36 : xe_code 122 36 = some (.getfield 148, [0, 9, 378]) := kg_122_0 (i := 18) rfl
theorem kc_122_39 : xe_code 122 39 = some (.iconst 1, []) := kg_122_0 (i := 19) rfl
theorem kc_122_40 : xe_code 122 40 = some (.iadd, []) := kg_122_0 (i := 20) rfl
theorem kc_122_41 : xe_code 122 41 = some (.putfield 148, [0, 9, 378]) := kg_122_0 (i := 21) rfl
theorem kc_122_44 : xe_code 122 44 = some (.aload_n 0, []) := kg_122_0 (i := 22) rfl
theorem kc_122_45 : xe_code 122 45 = some (.invokevirtual 328, [136, 0, 609, 0]) := kg_122_0 (i := 23) rfl
theorem kc_122_48 : xe_code 122 48 = some (.return_, []) := kg_122_0 (i := 24) rfl
theorem kc_123_0 : xe_code 123 0 = some (.iconst 0, []) := kg_123_0 (i := 0) rfl
theorem kc_123_1 : xe_code 123 1 = some (.istore_n 1, []) := kg_123_0 (i := 1) rfl
theorem kc_123_2 : xe_code 123 2 = some (.iload_n 1, []) := kg_123_0 (i := 2) rfl
theorem kc_123_3 : xe_code 123 3 = some (.aload_n 0, []) := kg_123_0 (i := 3) rfl
theorem kc_123_4 : xe_code 123 4 = some (.getfield 243, [0, 8, 377]) := kg_123_0 (i := 4) rfl
theorem kc_123_7 : xe_code 123 7 = some (.if_icmp .ge 56, [63]) := kg_123_0 (i := 5) rfl
theorem kc_123_10 : xe_code 123 10 = some (.iload_n 1, []) := kg_123_0 (i := 6) rfl
theorem kc_123_11 : xe_code 123 11 = some (.bipush 20, []) := kg_123_0 (i := 7) rfl
theorem kc_123_13 : xe_code 123 13 = some (.if_icmp .ge 50, [63]) := kg_123_0 (i := 8) rfl
theorem kc_123_16 : xe_code 123 16 = some (.aload_n 0, []) := kg_123_0 (i := 9) rfl
theorem kc_123_17 : xe_code 123 17 = some (.getfield 55, [0, 6, 375]) := kg_123_0 (i := 10) rfl
theorem kc_123_20 : xe_code 123 20 = some (.iload_n 1, []) := kg_123_0 (i := 11) rfl
theorem kc_123_21 : xe_code 123 21 = some (.aaload, []) := kg_123_0 (i := 12) rfl
theorem kc_123_22 : xe_code 123 22 = some (.astore_n 2, []) := kg_123_0 (i := 13) rfl
theorem kc_123_23 : xe_code 123 23 = some (.aload_n 2, []) := kg_123_0 (i := 14) rfl
theorem kc_123_24 : xe_code 123 24 = some (.getfield 253, [10, 3, 353]) := kg_123_0 (i := 15) rfl
theorem kc_123_27 : xe_code 123 27 = some (.aload_n 0, []) := kg_123_0 (i := 16) rfl
theorem kc_123_28 : xe_code 123 28 = some (.getfield 148, [0, 9, 378]) := kg_123_0 (i := 17) rfl
theorem kc_123_31 : xe_code 123 31 = some (.if_icmp .ne 26, [57]) := kg_123_0 (i := 18) rfl
theorem kc_123_34 : xe_code 123 34 = some (.aload_n 2, []) := kg_123_0 (i := 19) rfl
theorem kc_123_35 : xe_code 123 35 = some (.aload_n 0, []) := kg_123_0 (i := 20) rfl
theorem kc_123_36 : xe_code 123 36 = some (.getfield 10, [0, 0, 369]) := kg_123_0 (i := 21) rfl
theorem kc_123_39 : xe_code 123 39 = some (.aload_n 2, []) := kg_123_0 (i := 22) rfl
theorem kc_123_40 : xe_code 123 40 = some (.getfield 246, [10, 0, 350]) := kg_123_0 (i := 23) rfl
theorem kc_123_43 : xe_code 123 43 = some (.aload_n 2, []) := kg_123_0 (i := 24) rfl
theorem kc_123_44 : xe_code 123 44 = some (.getfield 247, [10, 1, 351]) := kg_123_0 (i := 25) rfl
theorem kc_123_47 : xe_code 123 47 = some (.aload_n 2, []) := kg_123_0 (i := 26) rfl
theorem kc_123_48 : xe_code 123 48 = some (.getfield 250, [10, 2, 352]) := kg_123_0 (i := 27) rfl
theorem kc_123_51 : xe_code 123 51 = some (.invokevirtual 88, [92, 3, 419, 4]) := kg_123_0 (i := 28) rfl
theorem kc_123_54 : xe_code 123 54 = some (.putfield 331, [10, 5, 355]) := kg_123_0 (i := 29) rfl
theorem kc_123_57 : xe_code 123 57 = some (.iinc 1 1, []) := kg_123_0 (i := 30) rfl
theorem kc_123_60 : xe_code 123 60 = some (.goto (-58), [2]) := kg_123_0 (i := 31) rfl
theorem kc_123_63 : xe_code 123 63 = some (.return_, []) := kg_123_0 (i := 32) rfl
theorem kc_124_0 : xe_code 124 0 = some (.aload_n 0, []) := kg_124_0 (i := 0) rfl
theorem kc_124_1 : xe_code 124 1 = some (.getfield 34, [4, 3, 175]) := kg_124_0 (i := 1) rfl
theorem kc_124_4 : xe_code 124 4 = some (.iload_n 2, []) := kg_124_0 (i := 2) rfl
theorem kc_124_5 : xe_code 124 5 = some (.invokevirtual 98, [99, 1, 494, 8]) := kg_124_0 (i := 3) rfl
theorem kc_124_8 : xe_code 124 8 = some (.istore_n 3, []) := kg_124_0 (i := 4) rfl
theorem kc_124_9 : xe_code 124 9 = some (.aload_n 0, []) := kg_124_0 (i := 5) rfl
theorem kc_124_10 : xe_code 124 10 = some (.aload_n 1, []) := kg_124_0 (i := 6) rfl
theorem kc_124_11 : xe_code 124 11 = some (.iload_n 2, []) := kg_124_0 (i := 7) rfl
theorem kc_124_12 : xe_code 124 12 = some (.invokevirtual 103, [125, 2, 560, 4]) := kg_124_0 (i := 8) rfl
theorem kc_124_15 : xe_code 124 15 = some (.iconst 0, []) := kg_124_0 (i := 9) rfl
theorem kc_124_16 : xe_code 124 16 = some (.istore 4, []) := kg_124_0 (i := 10) rfl
theorem kc_124_18 : xe_code 124 18 = some (.iload 4, []) := kg_124_0 (i := 11) rfl
theorem kc_124_20 : xe_code 124 20 = some (.bipush 6, []) := kg_124_0 (i := 12) rfl
theorem kc_124_22 : xe_code 124 22 = some (.if_icmp .ge 30, [52]) := kg_124_0 (i := 13) rfl
theorem kc_124_25 : xe_code 124 25 = some (.aload_n 1, []) := kg_124_0 (i := 14) rfl
theorem kc_124_26 : xe_code 124 26 = some (.getfield 107, [9, 3, 214]) := kg_124_0 (i := 15) rfl
theorem kc_124_29 : xe_code 124 29 = some (.iload 4, []) := kg_124_0 (i := 16) rfl
theorem kc_124_31 : xe_code 124 31 = some (.ishr, []) := kg_124_0 (i := 17) rfl
theorem kc_124_32 : xe_code 124 32 = some (.iconst 1, []) := kg_124_0 (i := 18) rfl
theorem kc_124_33 : xe_code 124 33 = some (.iand, []) := kg_124_0 (i := 19) rfl
theorem kc_124_34 : xe_code 124 34 = some (.ifCond .eq 12, [46]) := kg_124_0 (i := 20) rfl
theorem kc_124_37 : xe_code 124 37 = some (.aload_n 0, []) := kg_124_0 (i := 21) rfl
theorem kc_124_38 : xe_code 124 38 = some (.aload_n 1, []) := kg_124_0 (i := 22) rfl
theorem kc_124_39 : xe_code 124 39 = some (.iload 4, []) := kg_124_0 (i := 23) rfl
theorem kc_124_41 : xe_code 124 41 = some (.iload_n 2, []) := kg_124_0 (i := 24) rfl
theorem kc_124_42 : xe_code 124 42 = some (.iload_n 3, []) := kg_124_0 (i := 25) rfl
theorem kc_124_43 : xe_code 124 43 = some (.invokevirtual 111, [128, 4, 573, 4]) := kg_124_0 (i := 26) rfl
theorem kc_124_46 : xe_code 124 46 = some (.iinc 4 1, []) := kg_124_0 (i := 27) rfl
theorem kc_124_49 : xe_code 124 49 = some (.goto (-31), [18]) := kg_124_0 (i := 28) rfl
theorem kc_124_52 : xe_code 124 52 = some (.aload_n 0, []) := kg_124_0 (i := 29) rfl
theorem kc_124_53 : xe_code 124 53 = some (.aload_n 1, []) := kg_124_0 (i := 30) rfl
theorem kc_124_54 : xe_code 124 54 = some (.iload_n 2, []) := kg_124_0 (i := 31) rfl
theorem kc_124_55 : xe_code 124 55 = some (.invokevirtual 115, [132, 2, 593, 4]) := kg_124_0 (i := 32) rfl
theorem kc_124_58 : xe_code 124 58 = some (.aload_n 0, []) := kg_124_0 (i := 33) rfl
theorem kc_124_59 : xe_code 124 59 = some (.aload_n 1, []) := kg_124_0 (i := 34) rfl
theorem kc_124_60 : xe_code 124 60 = some (.invokevirtual 118, [134, 1, 601, 4]) := kg_124_0 (i := 35) rfl
theorem kc_124_63 : xe_code 124 63 = some (.return_, []) := kg_124_0 (i := 36) rfl
theorem kc_125_0 : xe_code 125 0 = some (.iconst 0, []) := kg_125_0 (i := 0) rfl
theorem kc_125_1 : xe_code 125 1 = some (.istore_n 3, []) := kg_125_0 (i := 1) rfl
theorem kc_125_2 : xe_code 125 2 = some (.iload_n 3, []) := kg_125_0 (i := 2) rfl
theorem kc_125_3 : xe_code 125 3 = some (.aload_n 0, []) := kg_125_0 (i := 3) rfl
theorem kc_125_4 : xe_code 125 4 = some (.getfield 79, [4, 5, 177]) := kg_125_0 (i := 4) rfl
theorem kc_125_7 : xe_code 125 7 = some (.if_icmp .ge 60, [67]) := kg_125_0 (i := 5) rfl
theorem kc_125_10 : xe_code 125 10 = some (.iload_n 3, []) := kg_125_0 (i := 6) rfl
theorem kc_125_11 : xe_code 125 11 = some (.bipush 10, []) := kg_125_0 (i := 7) rfl
theorem kc_125_13 : xe_code 125 13 = some (.if_icmp .ge 54, [67]) := kg_125_0 (i := 8) rfl
theorem kc_125_16 : xe_code 125 16 = some (.aload_n 0, []) := kg_125_0 (i := 9) rfl
theorem kc_125_17 : xe_code 125 17 = some (.getfield 25, [4, 2, 174]) := kg_125_0 (i := 10) rfl
theorem kc_125_20 : xe_code 125 20 = some (.iload_n 3, []) := kg_125_0 (i := 11) rfl
theorem kc_125_21 : xe_code 125 21 = some (.aaload, []) := kg_125_0 (i := 12) rfl
theorem kc_125_22 : xe_code 125 22 = some (.getfield 82, [1, 0, 157]) := kg_125_0 (i := 13) rfl
theorem kc_125_25 : xe_code 125 25 = some (.iconst 3, []) := kg_125_0 (i := 14) rfl
theorem kc_125_26 : xe_code 125 26 = some (.if_icmp .ne 35, [61]) := kg_125_0 (i := 15) rfl
theorem kc_125_29 : xe_code 125 29 = some (.aload_n 0, []) := kg_125_0 (i := 16) rfl
theorem kc_125_30 : xe_code 125 30 = some (.aload_n 1, []) := kg_125_0 (i := 17) rfl
theorem kc_125_31 : xe_code 125 31 = some (.iload_n 3, []) := kg_125_0 (i := 18) rfl
theorem kc_125_32 : xe_code 125 32 = some (.iload_n 2, []) := kg_125_0 (i := 19) rfl
theorem kc_125_33 : xe_code 125 33 = some (.invokevirtual 134, [126, 3, 564, 4]) := kg_125_0 (i := 20) rfl
theorem kc_125_36 : xe_code 125 36 = some (.ifCond .eq 25, [61]) := kg_125_0 (i := 21) rfl
theorem kc_125_39 : xe_code 125 39 = some (.aload_n 1, []) := kg_125_0 (i := 22) rfl
theorem kc_125_40 : xe_code 125 40 = some (.aload_n 0, []) := kg_125_0 (i := 23) rfl
theorem kc_125_41 : xe_code 125 41 = some (.getfield 25, [4, 2, 174]) := kg_125_0 (i := 24) rfl
theorem kc_125_44 : xe_code 125 44 = some (.iload_n 3, []) := kg_125_0 (i := 25) rfl
theorem kc_125_45 : xe_code 125 45 = some (.aaload, []) := kg_125_0 (i := 26) rfl
theorem kc_125_46 : xe_code 125 46 = some (.getfield 85, [1, 1, 158]) := kg_125_0 (i := 27) rfl
theorem kc_125_49 : xe_code 125 49 = some (.aload_n 0, []) := kg_125_0 (i := 28) rfl
theorem kc_125_50 : xe_code 125 50 = some (.getfield 25, [4, 2, 174]) := kg_125_0 (i := 29) rfl
theorem kc_125_53 : xe_code 125 53 = some (.iload_n 3, []) := kg_125_0 (i := 30) rfl
theorem kc_125_54 : xe_code 125 54 = some (.aaload, []) := kg_125_0 (i := 31) rfl
theorem kc_125_55 : xe_code 125 55 = some (.getfield 88, [1, 2, 159]) := kg_125_0 (i := 32) rfl
theorem kc_125_58 : xe_code 125 58 = some (.invokevirtual 138, [127, 2, 568, 9]) := kg_125_0 (i := 33) rfl
theorem kc_125_61 : xe_code 125 61 = some (.iinc 3 1, []) := kg_125_0 (i := 34) rfl
theorem kc_125_64 : xe_code 125 64 = some (.goto (-62), [2]) := kg_125_0 (i := 35) rfl
theorem kc_125_67 : xe_code 125 67 = some (.return_, []) := kg_125_0 (i := 36) rfl
theorem kc_126_0 : xe_code 126 0 = some (.aload_n 1, []) := kg_126_0 (i := 0) rfl
theorem kc_126_1 : xe_code 126 1 = some (.getfield 131, [9, 2, 211]) := kg_126_0 (i := 1) rfl
theorem kc_126_4 : xe_code 126 4 = some (.iload_n 2, []) := kg_126_0 (i := 2) rfl
theorem kc_126_5 : xe_code 126 5 = some (.ishr, []) := kg_126_0 (i := 3) rfl
theorem kc_126_6 : xe_code 126 6 = some (.iconst 1, []) := kg_126_0 (i := 4) rfl
theorem kc_126_7 : xe_code 126 7 = some (.iand, []) := kg_126_0 (i := 5) rfl
theorem kc_126_8 : xe_code 126 8 = some (.ifCond .eq 20, [28]) := kg_126_0 (i := 6) rfl
theorem kc_126_11 : xe_code 126 11 = some (.iload_n 3, []) := kg_126_0 (i := 7) rfl
theorem kc_126_12 : xe_code 126 12 = some (.aload_n 0, []) := kg_126_0 (i := 8) rfl
theorem kc_126_13 : xe_code 126 13 = some (.getfield 25, [4, 2, 174]) := kg_126_0 (i := 9) rfl
theorem kc_126_16 : xe_code 126 16 = some (.iload_n 2, []) := kg_126_0 (i := 10) rfl
theorem kc_126_17 : xe_code 126 17 = some (.aaload, []) := kg_126_0 (i := 11) rfl
theorem kc_126_18 : xe_code 126 18 = some (.getfield 91, [1, 3, 160]) := kg_126_0 (i := 12) rfl
theorem kc_126_21 : xe_code 126 21 = some (.if_icmp .lt 7, [28]) := kg_126_0 (i := 13) rfl
theorem kc_126_24 : xe_code 126 24 = some (.iconst 1, []) := kg_126_0 (i := 14) rfl
theorem kc_126_25 : xe_code 126 25 = some (.goto 4, [29]) := kg_126_0 (i := 15) rfl
theorem kc_126_28 : xe_code 126 28 = some (.iconst 0, []) := kg_126_0 (i := 16) rfl
theorem kc_126_29 : xe_code 126 29 = some (.ireturn, []) := kg_126_0 (i := 17) rfl
theorem kc_127_0 : xe_code 127 0 = some (.iload_n 1, []) := kg_127_0 (i := 0) rfl
theorem kc_127_1 : xe_code 127 1 = some (.ifCond .lt 39, [40]) := kg_127_0 (i := 1) rfl
theorem kc_127_4 : xe_code 127 4 = some (.iload_n 1, []) := kg_127_0 (i := 2) rfl
theorem kc_127_5 : xe_code 127 5 = some (.aload_n 0, []) := kg_127_0 (i := 3) rfl
theorem kc_127_6 : xe_code 127 6 = some (.getfield 9, [9, 0, 202]) := kg_127_0 (i := 4) rfl
theorem kc_127_9 : xe_code 127 9 = some (.arraylength, []) := kg_127_0 (i := 5) rfl
theorem kc_127_10 : xe_code 127 10 = some (.if_icmp .ge 30, [40]) := kg_127_0 (i := 6) rfl
theorem kc_127_13 : xe_code 127 13 = some (.aload_n 0, []) := kg_127_0 (i := 7) rfl
theorem kc_127_14 : xe_code 127 14 = some (.getfield 9, [9, 0, 202]) := kg_127_0 (i := 8) rfl
theorem kc_127_17 : xe_code 127 17 = some (.iload_n 1, []) := kg_127_0 (i := 9) rfl
theorem kc_127_18 : xe_code 127 18 = some (.iaload, []) := kg_127_0 (i := 10) rfl
theorem kc_127_19 : xe_code 127 19 = some (.iload_n 2, []) := kg_127_0 (i := 11) rfl
theorem kc_127_20 : xe_code 127 20 = some (.iadd, []) := kg_127_0 (i := 12) rfl
theorem kc_127_21 : xe_code 127 21 = some (.istore_n 3, []) := kg_127_0 (i := 13) rfl
theorem kc_127_22 : xe_code 127 22 = some (.aload_n 0, []) := kg_127_0 (i := 14) rfl
theorem kc_127_23 : xe_code 127 23 = some (.getfield 9, [9, 0, 202]) := kg_127_0 (i := 15) rfl
theorem kc_127_26 : xe_code 127 26 = some (.iload_n 1, []) := kg_127_0 (i := 16) rfl
theorem kc_127_27 : xe_code 127 27 = some (.iload_n 3, []) := kg_127_0 (i := 17) rfl
theorem kc_127_28 : xe_code 127 28 = some (.ldc 31, [99999, 572]) := kg_127_0 (i := 18) rfl
theorem kc_127_30 : xe_code 127 30 = some (.if_icmp .le 8, [38]) := kg_127_0 (i := 19) rfl
theorem kc_127_33 : xe_code 127 33 = some (.ldc 31, [99999, 572]) := kg_127_0 (i := 20) rfl
theorem kc_127_35 : xe_code 127 35 = some (.goto 4, [39]) := kg_127_0 (i := 21) rfl
theorem kc_127_38 : xe_code 127 38 = some (.iload_n 3, []) := kg_127_0 (i := 22) rfl
theorem kc_127_39 : xe_code 127 39 = some (.iastore, []) := kg_127_0 (i := 23) rfl
theorem kc_127_40 : xe_code 127 40 = some (.return_, []) := kg_127_0 (i := 24) rfl
theorem kc_128_0 : xe_code 128 0 = some (.aload_n 0, []) := kg_128_0 (i := 0) rfl
theorem kc_128_1 : xe_code 128 1 = some (.getfield 11, [4, 0, 170]) := kg_128_0 (i := 1) rfl
theorem kc_128_4 : xe_code 128 4 = some (.iload_n 2, []) := kg_128_0 (i := 2) rfl
theorem kc_128_5 : xe_code 128 5 = some (.aaload, []) := kg_128_0 (i := 3) rfl
theorem kc_128_6 : xe_code 128 6 = some (.astore 5, []) := kg_128_0 (i := 4) rfl
theorem kc_128_8 : xe_code 128 8 = some (.aload_n 1, []) := kg_128_0 (i := 5) rfl
theorem kc_128_9 : xe_code 128 9 = some (.iload_n 2, []) := kg_128_0 (i := 6) rfl
theorem kc_128_10 : xe_code 128 10 = some (.aload 5, []) := kg_128_0 (i := 7) rfl
theorem kc_128_12 : xe_code 128 12 = some (.getfield 142, [7, 1, 119]) := kg_128_0 (i := 8) rfl
theorem kc_128_15 : xe_code 128 15 = some (.iload_n 3, []) := kg_128_0 (i := 9) rfl
theorem kc_128_16 : xe_code 128 16 = some (.bipush 24, []) := kg_128_0 (i := 10) rfl
theorem kc_128_18 : xe_code 128 18 = some (.invokestatic 145, [3, 2, 577, 0]) := kg_128_0 (i := 11) rfl
theorem kc_128_21 : xe_code 128 21 = some (.iaload, []) := kg_128_0 (i := 12) rfl
theorem kc_128_22 : xe_code 128 22 = some (.invokevirtual 138, [127, 2, 568, 9]) := kg_128_0 (i := 13) rfl
theorem kc_128_25 : xe_code 128 25 = some (.aload_n 1, []) := kg_128_0 (i := 14) rfl
theorem kc_128_26 : xe_code 128 26 = some (.getfield 148, [9, 0, 204]) := kg_128_0 (i := 15) rfl
theorem kc_128_29 : xe_code 128 29 = some (.iload_n 2, []) := kg_128_0 (i := 16) rfl
theorem kc_128_30 : xe_code 128 30 = some (.iaload, []) := kg_128_0 (i := 17) rfl
theorem kc_128_31 : xe_code 128 31 = some (.istore 6, []) := kg_128_0 (i := 18) rfl
theorem kc_128_33 : xe_code 128 33 = some (.aload 5, []) := kg_128_0 (i := 19) rfl
theorem kc_128_35 : xe_code 128 35 = some (.getfield 94, [7, 0, 116]) := kg_128_0 (i := 20) rfl
theorem kc_128_38 : xe_code 128 38 = some (.iconst 0, []) := kg_128_0 (i := 21) rfl
theorem kc_128_39 : xe_code 128 39 = some (.iaload, []) := kg_128_0 (i := 22) rfl
theorem kc_128_40 : xe_code 128 40 = some (.istore 7, []) := kg_128_0 (i := 23) rfl
theorem kc_128_42 : xe_code 128 42 = some (.iload 7, []) := kg_128_0 (i := 24) rfl
theorem kc_128_44 : xe_code 128 44 = some (.iload 4, []) := kg_128_0 (i := 25) rfl
theorem kc_128_46 : xe_code 128 46 = some (.invokestatic 151, [102, 1, 580, 4]) := kg_128_0 (i := 26) rfl
theorem kc_128_49 : xe_code 128 49 = some (.imul, []) := kg_128_0 (i := 27) rfl
theorem kc_128_50 : xe_code 128 50 = some (.iconst 2, []) := kg_128_0 (i := 28) rfl
theorem kc_128_51 : xe_code 128 51 = some (.idiv, []) := kg_128_0 (i := 29) rfl
theorem kc_128_52 : xe_code 128 52 = some (.istore 8, []) := kg_128_0 (i := 30) rfl
theorem kc_128_54 : xe_code 128 54 = some (.iload 6, []) := kg_128_0 (i := 31) rfl
theorem kc_128_56 : xe_code 128 56 = some (.iload 6, []) := kg_128_0 (i := 32) rfl
theorem kc_128_58 : xe_code 128 58 = some (.iload 8, []) := kg_128_0 (i := 33) rfl
theorem kc_128_60 : xe_code 128 60 = some (.isub, []) := kg_128_0 (i := 34) rfl
theorem kc_128_61 : xe_code 128 61 = some (.aload 5, []) := kg_128_0 (i := 35) rfl
theorem kc_128_63 : xe_code 128 63 = some (.invokevirtual 154, [129, 0, 581, 7]) := kg_128_0 (i := 36) rfl
theorem kc_128_66 : xe_code 128 66 = some (.imul, []) := kg_128_0 (i := 37) rfl
theorem kc_128_67 : xe_code 128 67 = some (.bipush 100, []) := kg_128_0 (i := 38) rfl
theorem kc_128_69 : xe_code 128 69 = some (.idiv, []) := kg_128_0 (i := 39) rfl
theorem kc_128_70 : xe_code 128 70 = some (.isub, []) := kg_128_0 (i := 40) rfl
theorem kc_128_71 : xe_code 128 71 = some (.istore 6, []) := kg_128_0 (i := 41) rfl
theorem kc_128_73 : xe_code 128 73 = some (.aload 5, []) := kg_128_0 (i := 42) rfl
theorem kc_128_75 : xe_code 128 75 = some (.getfield 94, [7, 0, 116]) := kg_128_0 (i := 43) rfl
theorem kc_128_78 : xe_code 128 78 = some (.iconst 1, []) := kg_128_0 (i := 44) rfl
theorem kc_128_79 : xe_code 128 79 = some (.iaload, []) := kg_128_0 (i := 45) rfl
theorem kc_128_80 : xe_code 128 80 = some (.istore 9, []) := kg_128_0 (i := 46) rfl
theorem kc_128_82 : xe_code 128 82 = some (.iload 7, []) := kg_128_0 (i := 47) rfl
theorem kc_128_84 : xe_code 128 84 = some (.iload 9, []) := kg_128_1 (i := 0) rfl
theorem kc_128_86 : xe_code 128 86 = some (.invokestatic 151, [102, 1, 580, 4]) := kg_128_1 (i := 1) rfl
theorem kc_128_89 : xe_code 128 89 = some (.imul, []) := kg_128_1 (i := 2) rfl
theorem kc_128_90 : xe_code 128 90 = some (.istore 10, []) := kg_128_1 (i := 3) rfl
theorem kc_128_92 : xe_code 128 92 = some (.iload 6, []) := kg_128_1 (i := 4) rfl
theorem kc_128_94 : xe_code 128 94 = some (.iload 10, []) := kg_128_1 (i := 5) rfl
theorem kc_128_96 : xe_code 128 96 = some (.if_icmp .le 23, [119]) := kg_128_1 (i := 6) rfl
theorem kc_128_99 : xe_code 128 99 = some (.aload_n 0, []) := kg_128_1 (i := 7) rfl
theorem kc_128_100 : xe_code 128 100 = some (.aload_n 1, []) := kg_128_1 (i := 8) rfl
theorem kc_128_101 : xe_code 128 101 = some (.iload_n 2, []) := kg_128_1 (i := 9) rfl
theorem kc_128_102 : xe_code 128 102 = some (.iload 6, []) := kg_128_1 (i := 10) rfl
theorem kc_128_104 : xe_code 128 104 = some (.iload 10, []) := kg_128_1 (i := 11) rfl
theorem kc_128_106 : xe_code 128 106 = some (.isub, []) := kg_128_1 (i := 12) rfl
theorem kc_128_107 : xe_code 128 107 = some (.iload 9, []) := kg_128_1 (i := 13) rfl
theorem kc_128_109 : xe_code 128 109 = some (.iload 4, []) := kg_128_1 (i := 14) rfl
theorem kc_128_111 : xe_code 128 111 = some (.isub, []) := kg_128_1 (i := 15) rfl
theorem kc_128_112 : xe_code 128 112 = some (.invokevirtual 158, [130, 4, 585, 4]) := kg_128_1 (i := 16) rfl
theorem kc_128_115 : xe_code 128 115 = some (.iload 10, []) := kg_128_1 (i := 17) rfl
theorem kc_128_117 : xe_code 128 117 = some (.istore 6, []) := kg_128_1 (i := 18) rfl
theorem kc_128_119 : xe_code 128 119 = some (.aload_n 1, []) := kg_128_1 (i := 19) rfl
theorem kc_128_120 : xe_code 128 120 = some (.getfield 148, [9, 0, 204]) := kg_128_1 (i := 20) rfl
theorem kc_128_123 : xe_code 128 123 = some (.iload_n 2, []) := kg_128_1 (i := 21) rfl
theorem kc_128_124 : xe_code 128 124 = some (.iload 6, []) := kg_128_1 (i := 22) rfl
theorem kc_128_126 : xe_code 128 126 = some (.iastore, []) := kg_128_1 (i := 23) rfl
theorem kc_128_127 : xe_code 128 127 = some (.return_, []) := kg_128_1 (i := 24) rfl
theorem kc_129_0 : xe_code 129 0 = some (.aload_n 0, []) := kg_129_0 (i := 0) rfl
theorem kc_129_1 : xe_code 129 1 = some (.getfield 9, [7, 0, 115]) := kg_129_0 (i := 1) rfl
theorem kc_129_4 : xe_code 129 4 = some (.iconst 2, []) := kg_129_0 (i := 2) rfl
theorem kc_129_5 : xe_code 129 5 = some (.iaload, []) := kg_129_0 (i := 3) rfl
theorem kc_129_6 : xe_code 129 6 = some (.aload_n 0, []) := kg_129_0 (i := 4) rfl
theorem kc_129_7 : xe_code 129 7 = some (.getfield 9, [7, 0, 115]) := kg_129_0 (i := 5) rfl
theorem kc_129_10 : xe_code 129 10 = some (.iconst 4, []) := kg_129_0 (i := 6) rfl
theorem kc_129_11 : xe_code 129 11 = some (.iaload, []) := kg_129_0 (i := 7) rfl
theorem kc_129_12 : xe_code 129 12 = some (.iconst 1, []) := kg_129_0 (i := 8) rfl
theorem kc_129_13 : xe_code 129 13 = some (.if_icmp .ne 12, [25]) := kg_129_0 (i := 9) rfl
theorem kc_129_16 : xe_code 129 16 = some (.aload_n 0, []) := kg_129_0 (i := 10) rfl
theorem kc_129_17 : xe_code 129 17 = some (.getfield 9, [7, 0, 115]) := kg_129_0 (i := 11) rfl
theorem kc_129_20 : xe_code 129 20 = some (.iconst 3, []) := kg_129_0 (i := 12) rfl
theorem kc_129_21 : xe_code 129 21 = some (.iaload, []) := kg_129_0 (i := 13) rfl
theorem kc_129_22 : xe_code 129 22 = some (.goto 4, [26]) := kg_129_0 (i := 14) rfl
theorem kc_129_25 : xe_code 129 25 = some (.iconst 0, []) := kg_129_0 (i := 15) rfl
theorem kc_129_26 : xe_code 129 26 = some (.iadd, []) := kg_129_0 (i := 16) rfl
theorem kc_129_27 : xe_code 129 27 = some (.ireturn, []) := kg_129_0 (i := 17) rfl
theorem kc_130_0 : xe_code 130 0 = some (.bipush (-9), []) := kg_130_0 (i := 0) rfl
theorem kc_130_2 : xe_code 130 2 = some (.istore 5, []) := kg_130_0 (i := 1) rfl
theorem kc_130_4 : xe_code 130 4 = some (.iconst 0, []) := kg_130_0 (i := 2) rfl
theorem kc_130_5 : xe_code 130 5 = some (.istore 6, []) := kg_130_0 (i := 3) rfl
theorem kc_130_7 : xe_code 130 7 = some (.bipush 11, []) := kg_130_0 (i := 4) rfl
theorem kc_130_9 : xe_code 130 9 = some (.istore 7, []) := kg_130_0 (i := 5) rfl
theorem kc_130_11 : xe_code 130 11 = some (.iload 7, []) := kg_130_0 (i := 6) rfl
theorem kc_130_13 : xe_code 130 13 = some (.ifCond .lt 44, [57]) := kg_130_0 (i := 7) rfl
theorem kc_130_16 : xe_code 130 16 = some (.aload_n 0, []) := kg_130_0 (i := 8) rfl
theorem kc_130_17 : xe_code 130 17 = some (.getfield 19, [4, 1, 172]) := kg_130_0 (i := 9) rfl
theorem kc_130_20 : xe_code 130 20 = some (.iload 7, []) := kg_130_0 (i := 10) rfl
theorem kc_130_22 : xe_code 130 22 = some (.aaload, []) := kg_130_0 (i := 11) rfl
theorem kc_130_23 : xe_code 130 23 = some (.getfield 69, [11, 0, 131]) := kg_130_0 (i := 12) rfl
theorem kc_130_26 : xe_code 130 26 = some (.iload_n 2, []) := kg_130_0 (i := 13) rfl
theorem kc_130_27 : xe_code 130 27 = some (.if_icmp .ne 24, [51]) := kg_130_0 (i := 14) rfl
theorem kc_130_30 : xe_code 130 30 = some (.iload 7, []) := kg_130_0 (i := 15) rfl
theorem kc_130_32 : xe_code 130 32 = some (.istore 5, []) := kg_130_0 (i := 16) rfl
theorem kc_130_34 : xe_code 130 34 = some (.iload 6, []) := kg_130_0 (i := 17) rfl
theorem kc_130_36 : xe_code 130 36 = some (.aload_n 0, []) := kg_130_0 (i := 18) rfl
theorem kc_130_37 : xe_code 130 37 = some (.getfield 19, [4, 1, 172]) := kg_130_0 (i := 19) rfl
theorem kc_130_40 : xe_code 130 40 = some (.iload 7, []) := kg_130_0 (i := 20) rfl
theorem kc_130_42 : xe_code 130 42 = some (.aaload, []) := kg_130_0 (i := 21) rfl
theorem kc_130_43 : xe_code 130 43 = some (.iload 4, []) := kg_130_0 (i := 22) rfl
theorem kc_130_45 : xe_code 130 45 = some (.invokevirtual 100, [109, 1, 495, 11]) := kg_130_0 (i := 23) rfl
theorem kc_130_48 : xe_code 130 48 = some (.iadd, []) := kg_130_0 (i := 24) rfl
theorem kc_130_49 : xe_code 130 49 = some (.istore 6, []) := kg_130_0 (i := 25) rfl
theorem kc_130_51 : xe_code 130 51 = some (.iinc 7 (-1), []) := kg_130_0 (i := 26) rfl
theorem kc_130_54 : xe_code 130 54 = some (.goto (-43), [11]) := kg_130_0 (i := 27) rfl
theorem kc_130_57 : xe_code 130 57 = some (.iload_n 3, []) := kg_130_0 (i := 28) rfl
theorem kc_130_58 : xe_code 130 58 = some (.istore 7, []) := kg_130_0 (i := 29) rfl
theorem kc_130_60 : xe_code 130 60 = some (.iconst 0, []) := kg_130_0 (i := 30) rfl
theorem kc_130_61 : xe_code 130 61 = some (.istore 8, []) := kg_130_0 (i := 31) rfl
theorem kc_130_63 : xe_code 130 63 = some (.iload 8, []) := kg_130_0 (i := 32) rfl
theorem kc_130_65 : xe_code 130 65 = some (.bipush 12, []) := kg_130_0 (i := 33) rfl
theorem kc_130_67 : xe_code 130 67 = some (.if_icmp .ge 62, [129]) := kg_130_0 (i := 34) rfl
theorem kc_130_70 : xe_code 130 70 = some (.iload 6, []) := kg_130_0 (i := 35) rfl
theorem kc_130_72 : xe_code 130 72 = some (.ifCond .le 57, [129]) := kg_130_0 (i := 36) rfl
theorem kc_130_75 : xe_code 130 75 = some (.aload_n 0, []) := kg_130_0 (i := 37) rfl
theorem kc_130_76 : xe_code 130 76 = some (.getfield 19, [4, 1, 172]) := kg_130_0 (i := 38) rfl
theorem kc_130_79 : xe_code 130 79 = some (.iload 8, []) := kg_130_0 (i := 39) rfl
theorem kc_130_81 : xe_code 130 81 = some (.aaload, []) := kg_130_0 (i := 40) rfl
theorem kc_130_82 : xe_code 130 82 = some (.getfield 69, [11, 0, 131]) := kg_130_0 (i := 41) rfl
theorem kc_130_85 : xe_code 130 85 = some (.iload_n 2, []) := kg_130_0 (i := 42) rfl
theorem kc_130_86 : xe_code 130 86 = some (.if_icmp .ne 37, [123]) := kg_130_0 (i := 43) rfl
theorem kc_130_89 : xe_code 130 89 = some (.iload_n 3, []) := kg_130_0 (i := 44) rfl
theorem kc_130_90 : xe_code 130 90 = some (.aload_n 0, []) := kg_130_0 (i := 45) rfl
theorem kc_130_91 : xe_code 130 91 = some (.getfield 19, [4, 1, 172]) := kg_130_0 (i := 46) rfl
theorem kc_130_94 : xe_code 130 94 = some (.iload 8, []) := kg_130_0 (i := 47) rfl
theorem kc_130_96 : xe_code 130 96 = some (.aaload, []) := kg_130_1 (i := 0) rfl
theorem kc_130_97 : xe_code 130 97 = some (.iload 4, []) := kg_130_1 (i := 1) rfl
theorem kc_130_99 : xe_code 130 99 = some (.invokevirtual 100, [109, 1, 495, 11]) := kg_130_1 (i := 2) rfl
theorem kc_130_102 : xe_code 130 102 = some (.imul, []) := kg_130_1 (i := 3) rfl
theorem kc_130_103 : xe_code 130 103 = some (.iload 6, []) := kg_130_1 (i := 4) rfl
theorem kc_130_105 : xe_code 130 105 = some (.idiv, []) := kg_130_1 (i := 5) rfl
theorem kc_130_106 : xe_code 130 106 = some (.istore 9, []) := kg_130_1 (i := 6) rfl
theorem kc_130_108 : xe_code 130 108 = some (.aload_n 1, []) := kg_130_1 (i := 7) rfl
theorem kc_130_109 : xe_code 130 109 = some (.iload 8, []) := kg_130_1 (i := 8) rfl
theorem kc_130_111 : xe_code 130 111 = some (.iload 9, []) := kg_130_1 (i := 9) rfl
theorem kc_130_113 : xe_code 130 113 = some (.invokevirtual 161, [131, 2, 589, 9]) := kg_130_1 (i := 10) rfl
theorem kc_130_116 : xe_code 130 116 = some (.iload 7, []) := kg_130_1 (i := 11) rfl
theorem kc_130_118 : xe_code 130 118 = some (.iload 9, []) := kg_130_1 (i := 12) rfl
theorem kc_130_120 : xe_code 130 120 = some (.isub, []) := kg_130_1 (i := 13) rfl
theorem kc_130_121 : xe_code 130 121 = some (.istore 7, []) := kg_130_1 (i := 14) rfl
theorem kc_130_123 : xe_code 130 123 = some (.iinc 8 1, []) := kg_130_1 (i := 15) rfl
theorem kc_130_126 : xe_code 130 126 = some (.goto (-63), [63]) := kg_130_1 (i := 16) rfl
theorem kc_130_129 : xe_code 130 129 = some (.iload 5, []) := kg_130_1 (i := 17) rfl
theorem kc_130_131 : xe_code 130 131 = some (.bipush (-9), []) := kg_130_1 (i := 18) rfl
theorem kc_130_133 : xe_code 130 133 = some (.if_icmp .eq 11, [144]) := kg_130_1 (i := 19) rfl
theorem kc_130_136 : xe_code 130 136 = some (.aload_n 1, []) := kg_130_1 (i := 20) rfl
theorem kc_130_137 : xe_code 130 137 = some (.iload 5, []) := kg_130_1 (i := 21) rfl
theorem kc_130_139 : xe_code 130 139 = some (.iload 7, []) := kg_130_1 (i := 22) rfl
theorem kc_130_141 : xe_code 130 141 = some (.invokevirtual 161, [131, 2, 589, 9]) := kg_130_1 (i := 23) rfl
theorem kc_130_144 : xe_code 130 144 = some (.return_, []) := kg_130_1 (i := 24) rfl
theorem kc_131_0 : xe_code 131 0 = some (.iload_n 1, []) := kg_131_0 (i := 0) rfl
theorem kc_131_1 : xe_code 131 1 = some (.ifCond .lt 39, [40]) := kg_131_0 (i := 1) rfl
theorem kc_131_4 : xe_code 131 4 = some (.iload_n 1, []) := kg_131_0 (i := 2) rfl
theorem kc_131_5 : xe_code 131 5 = some (.aload_n 0, []) := kg_131_0 (i := 3) rfl
theorem kc_131_6 : xe_code 131 6 = some (.getfield 15, [9, 1, 205]) := kg_131_0 (i := 4) rfl
theorem kc_131_9 : xe_code 131 9 = some (.arraylength, []) := kg_131_0 (i := 5) rfl
theorem kc_131_10 : xe_code 131 10 = some (.if_icmp .ge 30, [40]) := kg_131_0 (i := 6) rfl
theorem kc_131_13 : xe_code 131 13 = some (.aload_n 0, []) := kg_131_0 (i := 7) rfl
theorem kc_131_14 : xe_code 131 14 = some (.getfield 15, [9, 1, 205]) := kg_131_0 (i := 8) rfl
theorem kc_131_17 : xe_code 131 17 = some (.iload_n 1, []) := kg_131_0 (i := 9) rfl
theorem kc_131_18 : xe_code 131 18 = some (.iaload, []) := kg_131_0 (i := 10) rfl
theorem kc_131_19 : xe_code 131 19 = some (.iload_n 2, []) := kg_131_0 (i := 11) rfl
theorem kc_131_20 : xe_code 131 20 = some (.iadd, []) := kg_131_0 (i := 12) rfl
theorem kc_131_21 : xe_code 131 21 = some (.istore_n 3, []) := kg_131_0 (i := 13) rfl
theorem kc_131_22 : xe_code 131 22 = some (.aload_n 0, []) := kg_131_0 (i := 14) rfl
theorem kc_131_23 : xe_code 131 23 = some (.getfield 15, [9, 1, 205]) := kg_131_0 (i := 15) rfl
theorem kc_131_26 : xe_code 131 26 = some (.iload_n 1, []) := kg_131_0 (i := 16) rfl
theorem kc_131_27 : xe_code 131 27 = some (.iload_n 3, []) := kg_131_0 (i := 17) rfl
theorem kc_131_28 : xe_code 131 28 = some (.ldc 31, [99999, 572]) := kg_131_0 (i := 18) rfl
theorem kc_131_30 : xe_code 131 30 = some (.if_icmp .le 8, [38]) := kg_131_0 (i := 19) rfl
theorem kc_131_33 : xe_code 131 33 = some (.ldc 31, [99999, 572]) := kg_131_0 (i := 20) rfl
theorem kc_131_35 : xe_code 131 35 = some (.goto 4, [39]) := kg_131_0 (i := 21) rfl
theorem kc_131_38 : xe_code 131 38 = some (.iload_n 3, []) := kg_131_0 (i := 22) rfl
theorem kc_131_39 : xe_code 131 39 = some (.iastore, []) := kg_131_0 (i := 23) rfl
theorem kc_131_40 : xe_code 131 40 = some (.return_, []) := kg_131_0 (i := 24) rfl
theorem kc_132_0 : xe_code 132 0 = some (.iconst 0, []) := kg_132_0 (i := 0) rfl
theorem kc_132_1 : xe_code 132 1 = some (.istore_n 3, []) := kg_132_0 (i := 1) rfl
theorem kc_132_2 : xe_code 132 2 = some (.iload_n 3, []) := kg_132_0 (i := 2) rfl
theorem kc_132_3 : xe_code 132 3 = some (.aload_n 0, []) := kg_132_0 (i := 3) rfl
theorem kc_132_4 : xe_code 132 4 = some (.getfield 79, [4, 5, 177]) := kg_132_0 (i := 4) rfl
theorem kc_132_7 : xe_code 132 7 = some (.if_icmp .ge 62, [69]) := kg_132_0 (i := 5) rfl
theorem kc_132_10 : xe_code 132 10 = some (.iload_n 3, []) := kg_132_0 (i := 6) rfl
theorem kc_132_11 : xe_code 132 11 = some (.bipush 10, []) := kg_132_0 (i := 7) rfl
theorem kc_132_13 : xe_code 132 13 = some (.if_icmp .ge 56, [69]) := kg_132_0 (i := 8) rfl
theorem kc_132_16 : xe_code 132 16 = some (.aload_n 0, []) := kg_132_0 (i := 9) rfl
theorem kc_132_17 : xe_code 132 17 = some (.getfield 25, [4, 2, 174]) := kg_132_0 (i := 10) rfl
theorem kc_132_20 : xe_code 132 20 = some (.iload_n 3, []) := kg_132_0 (i := 11) rfl
theorem kc_132_21 : xe_code 132 21 = some (.aaload, []) := kg_132_0 (i := 12) rfl
theorem kc_132_22 : xe_code 132 22 = some (.getfield 82, [1, 0, 157]) := kg_132_0 (i := 13) rfl
theorem kc_132_25 : xe_code 132 25 = some (.iconst 3, []) := kg_132_0 (i := 14) rfl
theorem kc_132_26 : xe_code 132 26 = some (.if_icmp .eq 37, [63]) := kg_132_0 (i := 15) rfl
theorem kc_132_29 : xe_code 132 29 = some (.aload_n 0, []) := kg_132_0 (i := 16) rfl
theorem kc_132_30 : xe_code 132 30 = some (.aload_n 1, []) := kg_132_0 (i := 17) rfl
theorem kc_132_31 : xe_code 132 31 = some (.iload_n 3, []) := kg_132_0 (i := 18) rfl
theorem kc_132_32 : xe_code 132 32 = some (.iload_n 2, []) := kg_132_0 (i := 19) rfl
theorem kc_132_33 : xe_code 132 33 = some (.invokevirtual 134, [126, 3, 564, 4]) := kg_132_0 (i := 20) rfl
theorem kc_132_36 : xe_code 132 36 = some (.ifCond .eq 27, [63]) := kg_132_0 (i := 21) rfl
theorem kc_132_39 : xe_code 132 39 = some (.aload_n 1, []) := kg_132_0 (i := 22) rfl
theorem kc_132_40 : xe_code 132 40 = some (.aload_n 0, []) := kg_132_0 (i := 23) rfl
theorem kc_132_41 : xe_code 132 41 = some (.getfield 25, [4, 2, 174]) := kg_132_0 (i := 24) rfl
theorem kc_132_44 : xe_code 132 44 = some (.iload_n 3, []) := kg_132_0 (i := 25) rfl
theorem kc_132_45 : xe_code 132 45 = some (.aaload, []) := kg_132_0 (i := 26) rfl
theorem kc_132_46 : xe_code 132 46 = some (.getfield 85, [1, 1, 158]) := kg_132_0 (i := 27) rfl
theorem kc_132_49 : xe_code 132 49 = some (.aload_n 0, []) := kg_132_0 (i := 28) rfl
theorem kc_132_50 : xe_code 132 50 = some (.aload_n 0, []) := kg_132_0 (i := 29) rfl
theorem kc_132_51 : xe_code 132 51 = some (.getfield 25, [4, 2, 174]) := kg_132_0 (i := 30) rfl
theorem kc_132_54 : xe_code 132 54 = some (.iload_n 3, []) := kg_132_0 (i := 31) rfl
theorem kc_132_55 : xe_code 132 55 = some (.aaload, []) := kg_132_0 (i := 32) rfl
theorem kc_132_56 : xe_code 132 56 = some (.iload_n 2, []) := kg_132_0 (i := 33) rfl
theorem kc_132_57 : xe_code 132 57 = some (.invokevirtual 164, [133, 2, 597, 4]) := kg_132_0 (i := 34) rfl
theorem kc_132_60 : xe_code 132 60 = some (.invokevirtual 161, [131, 2, 589, 9]) := kg_132_0 (i := 35) rfl
theorem kc_132_63 : xe_code 132 63 = some (.iinc 3 1, []) := kg_132_0 (i := 36) rfl
theorem kc_132_66 : xe_code 132 66 = some (.goto (-64), [2]) := kg_132_0 (i := 37) rfl
theorem kc_132_69 : xe_code 132 69 = some (.return_, []) := kg_132_0 (i := 38) rfl
theorem kc_133_0 : xe_code 133 0 = some (.aload_n 1, []) := kg_133_0 (i := 0) rfl
theorem kc_133_1 : xe_code 133 1 = some (.getfield 82, [1, 0, 157]) := kg_133_0 (i := 1) rfl
theorem kc_133_4 : xe_code 133 4 = some (.tableswitch 96 0 2 #[28, 71, 76], [100, 32, 75, 80]) := kg_133_0 (i := 2) rfl
theorem kc_133_32 : xe_code 133 32 = some (.aload_n 1, []) := kg_133_0 (i := 3) rfl
theorem kc_133_33 : xe_code 133 33 = some (.getfield 85, [1, 1, 158]) := kg_133_0 (i := 4) rfl
theorem kc_133_36 : xe_code 133 36 = some (.invokestatic 62, [104, 1, 492, 0]) := kg_133_0 (i := 5) rfl
theorem kc_133_39 : xe_code 133 39 = some (.ifCond .eq 34, [73]) := kg_133_0 (i := 6) rfl
theorem kc_133_42 : xe_code 133 42 = some (.aload_n 0, []) := kg_133_0 (i := 7) rfl
theorem kc_133_43 : xe_code 133 43 = some (.getfield 19, [4, 1, 172]) := kg_133_0 (i := 8) rfl
theorem kc_133_46 : xe_code 133 46 = some (.aload_n 1, []) := kg_133_0 (i := 9) rfl
theorem kc_133_47 : xe_code 133 47 = some (.getfield 85, [1, 1, 158]) := kg_133_0 (i := 10) rfl
theorem kc_133_50 : xe_code 133 50 = some (.aaload, []) := kg_133_0 (i := 11) rfl
theorem kc_133_51 : xe_code 133 51 = some (.getfield 75, [11, 2, 136]) := kg_133_0 (i := 12) rfl
theorem kc_133_54 : xe_code 133 54 = some (.ifCond .eq 19, [73]) := kg_133_0 (i := 13) rfl
theorem kc_133_57 : xe_code 133 57 = some (.aload_n 1, []) := kg_133_0 (i := 14) rfl
theorem kc_133_58 : xe_code 133 58 = some (.getfield 88, [1, 2, 159]) := kg_133_0 (i := 15) rfl
theorem kc_133_61 : xe_code 133 61 = some (.aload_n 0, []) := kg_133_0 (i := 16) rfl
theorem kc_133_62 : xe_code 133 62 = some (.getfield 38, [4, 4, 176]) := kg_133_0 (i := 17) rfl
theorem kc_133_65 : xe_code 133 65 = some (.iload_n 2, []) := kg_133_0 (i := 18) rfl
theorem kc_133_66 : xe_code 133 66 = some (.invokevirtual 98, [99, 1, 494, 8]) := kg_133_0 (i := 19) rfl
theorem kc_133_69 : xe_code 133 69 = some (.imul, []) := kg_133_0 (i := 20) rfl
theorem kc_133_70 : xe_code 133 70 = some (.goto 4, [74]) := kg_133_0 (i := 21) rfl
theorem kc_133_73 : xe_code 133 73 = some (.iconst 0, []) := kg_133_0 (i := 22) rfl
theorem kc_133_74 : xe_code 133 74 = some (.ireturn, []) := kg_133_0 (i := 23) rfl
theorem kc_133_75 : xe_code 133 75 = some (.aload_n 1, []) := kg_133_0 (i := 24) rfl
theorem kc_133_76 : xe_code 133 76 = some (.getfield 88, [1, 2, 159]) := kg_133_0 (i := 25) rfl
theorem kc_133_79 : xe_code 133 79 = some (.ireturn, []) := kg_133_0 (i := 26) rfl
theorem kc_133_80 : xe_code 133 80 = some (.iload_n 2, []) := kg_133_0 (i := 27) rfl
theorem kc_133_81 : xe_code 133 81 = some (.bipush 24, []) := kg_133_0 (i := 28) rfl
theorem kc_133_83 : xe_code 133 83 = some (.invokestatic 145, [3, 2, 577, 0]) := kg_133_0 (i := 29) rfl
theorem kc_133_86 : xe_code 133 86 = some (.bipush 6, []) := kg_133_0 (i := 30) rfl
theorem kc_133_88 : xe_code 133 88 = some (.if_icmp .ge 10, [98]) := kg_133_0 (i := 31) rfl
theorem kc_133_91 : xe_code 133 91 = some (.aload_n 1, []) := kg_133_0 (i := 32) rfl
theorem kc_133_92 : xe_code 133 92 = some (.getfield 88, [1, 2, 159]) := kg_133_0 (i := 33) rfl
theorem kc_133_95 : xe_code 133 95 = some (.goto 4, [99]) := kg_133_0 (i := 34) rfl
theorem kc_133_98 : xe_code 133 98 = some (.iconst 0, []) := kg_133_0 (i := 35) rfl
theorem kc_133_99 : xe_code 133 99 = some (.ireturn, []) := kg_133_0 (i := 36) rfl
theorem kc_133_100 : xe_code 133 100 = some (.iconst 0, []) := kg_133_0 (i := 37) rfl
theorem kc_133_101 : xe_code 133 101 = some (.ireturn, []) := kg_133_0 (i := 38) rfl
theorem kc_134_0 : xe_code 134 0 = some (.iconst 0, []) := kg_134_0 (i := 0) rfl
theorem kc_134_1 : xe_code 134 1 = some (.istore_n 2, []) := kg_134_0 (i := 1) rfl
theorem kc_134_2 : xe_code 134 2 = some (.iload_n 2, []) := kg_134_0 (i := 2) rfl
theorem kc_134_3 : xe_code 134 3 = some (.bipush 12, []) := kg_134_0 (i := 3) rfl
theorem kc_134_5 : xe_code 134 5 = some (.if_icmp .ge 40, [45]) := kg_134_0 (i := 4) rfl
theorem kc_134_8 : xe_code 134 8 = some (.aload_n 1, []) := kg_134_0 (i := 5) rfl
theorem kc_134_9 : xe_code 134 9 = some (.getfield 125, [9, 1, 208]) := kg_134_0 (i := 6) rfl
theorem kc_134_12 : xe_code 134 12 = some (.iload_n 2, []) := kg_134_0 (i := 7) rfl
theorem kc_134_13 : xe_code 134 13 = some (.iaload, []) := kg_134_0 (i := 8) rfl
theorem kc_134_14 : xe_code 134 14 = some (.istore_n 3, []) := kg_134_0 (i := 9) rfl
theorem kc_134_15 : xe_code 134 15 = some (.iload_n 3, []) := kg_134_0 (i := 10) rfl
theorem kc_134_16 : xe_code 134 16 = some (.ifCond .le 23, [39]) := kg_134_0 (i := 11) rfl
theorem kc_134_19 : xe_code 134 19 = some (.aload_n 1, []) := kg_134_0 (i := 12) rfl
theorem kc_134_20 : xe_code 134 20 = some (.getfield 125, [9, 1, 208]) := kg_134_0 (i := 13) rfl
theorem kc_134_23 : xe_code 134 23 = some (.iload_n 2, []) := kg_134_0 (i := 14) rfl
theorem kc_134_24 : xe_code 134 24 = some (.iload_n 3, []) := kg_134_0 (i := 15) rfl
theorem kc_134_25 : xe_code 134 25 = some (.iload_n 3, []) := kg_134_0 (i := 16) rfl
theorem kc_134_26 : xe_code 134 26 = some (.aload_n 0, []) := kg_134_0 (i := 17) rfl
theorem kc_134_27 : xe_code 134 27 = some (.getfield 41, [4, 6, 179]) := kg_134_0 (i := 18) rfl
theorem kc_134_30 : xe_code 134 30 = some (.imul, []) := kg_134_0 (i := 19) rfl
theorem kc_134_31 : xe_code 134 31 = some (.bipush 99, []) := kg_134_0 (i := 20) rfl
theorem kc_134_33 : xe_code 134 33 = some (.iadd, []) := kg_134_0 (i := 21) rfl
theorem kc_134_34 : xe_code 134 34 = some (.bipush 100, []) := kg_134_0 (i := 22) rfl
theorem kc_134_36 : xe_code 134 36 = some (.idiv, []) := kg_134_0 (i := 23) rfl
theorem kc_134_37 : xe_code 134 37 = some (.isub, []) := kg_134_0 (i := 24) rfl
theorem kc_134_38 : xe_code 134 38 = some (.iastore, []) := kg_134_0 (i := 25) rfl
theorem kc_134_39 : xe_code 134 39 = some (.iinc 2 1, []) := kg_134_0 (i := 26) rfl
theorem kc_134_42 : xe_code 134 42 = some (.goto (-40), [2]) := kg_134_0 (i := 27) rfl
theorem kc_134_45 : xe_code 134 45 = some (.return_, []) := kg_134_0 (i := 28) rfl
theorem kc_135_0 : xe_code 135 0 = some (.iload_n 2, []) := kg_135_0 (i := 0) rfl
theorem kc_135_1 : xe_code 135 1 = some (.ifCond .lt 10, [11]) := kg_135_0 (i := 1) rfl
theorem kc_135_4 : xe_code 135 4 = some (.iload_n 2, []) := kg_135_0 (i := 2) rfl
theorem kc_135_5 : xe_code 135 5 = some (.sipush 600, []) := kg_135_0 (i := 3) rfl
theorem kc_135_8 : xe_code 135 8 = some (.if_icmp .lt 4, [12]) := kg_135_0 (i := 4) rfl
theorem kc_135_11 : xe_code 135 11 = some (.return_, []) := kg_135_0 (i := 5) rfl
theorem kc_135_12 : xe_code 135 12 = some (.iconst 0, []) := kg_135_0 (i := 6) rfl
theorem kc_135_13 : xe_code 135 13 = some (.istore_n 3, []) := kg_135_0 (i := 7) rfl
theorem kc_135_14 : xe_code 135 14 = some (.iload_n 3, []) := kg_135_0 (i := 8) rfl
theorem kc_135_15 : xe_code 135 15 = some (.bipush 12, []) := kg_135_0 (i := 9) rfl
theorem kc_135_17 : xe_code 135 17 = some (.if_icmp .ge 52, [69]) := kg_135_0 (i := 10) rfl
theorem kc_135_20 : xe_code 135 20 = some (.aload_n 0, []) := kg_135_0 (i := 11) rfl
theorem kc_135_21 : xe_code 135 21 = some (.getfield 19, [4, 1, 172]) := kg_135_0 (i := 12) rfl
theorem kc_135_24 : xe_code 135 24 = some (.iload_n 3, []) := kg_135_0 (i := 13) rfl
theorem kc_135_25 : xe_code 135 25 = some (.aaload, []) := kg_135_0 (i := 14) rfl
theorem kc_135_26 : xe_code 135 26 = some (.getfield 122, [11, 4, 140]) := kg_135_0 (i := 15) rfl
theorem kc_135_29 : xe_code 135 29 = some (.iload_n 2, []) := kg_135_0 (i := 16) rfl
theorem kc_135_30 : xe_code 135 30 = some (.aload_n 1, []) := kg_135_0 (i := 17) rfl
theorem kc_135_31 : xe_code 135 31 = some (.getfield 125, [9, 1, 208]) := kg_135_0 (i := 18) rfl
theorem kc_135_34 : xe_code 135 34 = some (.iload_n 3, []) := kg_135_0 (i := 19) rfl
theorem kc_135_35 : xe_code 135 35 = some (.iaload, []) := kg_135_0 (i := 20) rfl
theorem kc_135_36 : xe_code 135 36 = some (.iastore, []) := kg_135_0 (i := 21) rfl
theorem kc_135_37 : xe_code 135 37 = some (.aload_n 1, []) := kg_135_0 (i := 22) rfl
theorem kc_135_38 : xe_code 135 38 = some (.getfield 125, [9, 1, 208]) := kg_135_0 (i := 23) rfl
theorem kc_135_41 : xe_code 135 41 = some (.iload_n 3, []) := kg_135_0 (i := 24) rfl
theorem kc_135_42 : xe_code 135 42 = some (.iaload, []) := kg_135_0 (i := 25) rfl
theorem kc_135_43 : xe_code 135 43 = some (.bipush 50, []) := kg_135_0 (i := 26) rfl
theorem kc_135_45 : xe_code 135 45 = some (.if_icmp .lt 18, [63]) := kg_135_0 (i := 27) rfl
theorem kc_135_48 : xe_code 135 48 = some (.aload_n 0, []) := kg_135_0 (i := 28) rfl
theorem kc_135_49 : xe_code 135 49 = some (.getfield 19, [4, 1, 172]) := kg_135_0 (i := 29) rfl
theorem kc_135_52 : xe_code 135 52 = some (.iload_n 3, []) := kg_135_0 (i := 30) rfl
theorem kc_135_53 : xe_code 135 53 = some (.aaload, []) := kg_135_0 (i := 31) rfl
theorem kc_135_54 : xe_code 135 54 = some (.dup, []) := kg_135_0 (i := 32) rfl
theorem kc_135_55 : xe_code 135 55 = some (.getfield 128, [11, 3, 138]) := kg_135_0 (i := 33) rfl
theorem kc_135_58 : xe_code 135 58 = some (.iconst 1, []) := kg_135_0 (i := 34) rfl
theorem kc_135_59 : xe_code 135 59 = some (.iadd, []) := kg_135_0 (i := 35) rfl
theorem kc_135_60 : xe_code 135 60 = some (.putfield 128, [11, 3, 138]) := kg_135_0 (i := 36) rfl
theorem kc_135_63 : xe_code 135 63 = some (.iinc 3 1, []) := kg_135_0 (i := 37) rfl
theorem kc_135_66 : xe_code 135 66 = some (.goto (-52), [14]) := kg_135_0 (i := 38) rfl
theorem kc_135_69 : xe_code 135 69 = some (.return_, []) := kg_135_0 (i := 39) rfl
theorem kc_136_0 : xe_code 136 0 = some (.iconst 0, []) := kg_136_0 (i := 0) rfl
theorem kc_136_1 : xe_code 136 1 = some (.istore_n 1, []) := kg_136_0 (i := 1) rfl
theorem kc_136_2 : xe_code 136 2 = some (.iload_n 1, []) := kg_136_0 (i := 2) rfl
theorem kc_136_3 : xe_code 136 3 = some (.aload_n 0, []) := kg_136_0 (i := 3) rfl
theorem kc_136_4 : xe_code 136 4 = some (.getfield 243, [0, 8, 377]) := kg_136_0 (i := 4) rfl
theorem kc_136_7 : xe_code 136 7 = some (.if_icmp .ge 53, [60]) := kg_136_0 (i := 5) rfl
theorem kc_136_10 : xe_code 136 10 = some (.iload_n 1, []) := kg_136_0 (i := 6) rfl
theorem kc_136_11 : xe_code 136 11 = some (.bipush 20, []) := kg_136_0 (i := 7) rfl
theorem kc_136_13 : xe_code 136 13 = some (.if_icmp .ge 47, [60]) := kg_136_0 (i := 8) rfl
theorem kc_136_16 : xe_code 136 16 = some (.aload_n 0, []) := kg_136_0 (i := 9) rfl
theorem kc_136_17 : xe_code 136 17 = some (.getfield 55, [0, 6, 375]) := kg_136_0 (i := 10) rfl
theorem kc_136_20 : xe_code 136 20 = some (.iload_n 1, []) := kg_136_0 (i := 11) rfl
theorem kc_136_21 : xe_code 136 21 = some (.aaload, []) := kg_136_0 (i := 12) rfl
theorem kc_136_22 : xe_code 136 22 = some (.astore_n 2, []) := kg_136_0 (i := 13) rfl
theorem kc_136_23 : xe_code 136 23 = some (.aload_n 2, []) := kg_136_0 (i := 14) rfl
theorem kc_136_24 : xe_code 136 24 = some (.getfield 256, [10, 4, 354]) := kg_136_0 (i := 15) rfl
theorem kc_136_27 : xe_code 136 27 = some (.aload_n 0, []) := kg_136_0 (i := 16) rfl
theorem kc_136_28 : xe_code 136 28 = some (.getfield 148, [0, 9, 378]) := kg_136_0 (i := 17) rfl
theorem kc_136_31 : xe_code 136 31 = some (.if_icmp .ne 23, [54]) := kg_136_0 (i := 18) rfl
theorem kc_136_34 : xe_code 136 34 = some (.aload_n 0, []) := kg_136_0 (i := 19) rfl
theorem kc_136_35 : xe_code 136 35 = some (.getfield 10, [0, 0, 369]) := kg_136_0 (i := 20) rfl
theorem kc_136_38 : xe_code 136 38 = some (.aload_n 2, []) := kg_136_0 (i := 21) rfl
theorem kc_136_39 : xe_code 136 39 = some (.getfield 246, [10, 0, 350]) := kg_136_0 (i := 22) rfl
theorem kc_136_42 : xe_code 136 42 = some (.aload_n 2, []) := kg_136_0 (i := 23) rfl
theorem kc_136_43 : xe_code 136 43 = some (.getfield 247, [10, 1, 351]) := kg_136_0 (i := 24) rfl
theorem kc_136_46 : xe_code 136 46 = some (.aload_n 2, []) := kg_136_0 (i := 25) rfl
theorem kc_136_47 : xe_code 136 47 = some (.getfield 331, [10, 5, 355]) := kg_136_0 (i := 26) rfl
theorem kc_136_50 : xe_code 136 50 = some (.invokevirtual 88, [92, 3, 419, 4]) := kg_136_0 (i := 27) rfl
theorem kc_136_53 : xe_code 136 53 = some (.pop, []) := kg_136_0 (i := 28) rfl
theorem kc_136_54 : xe_code 136 54 = some (.iinc 1 1, []) := kg_136_0 (i := 29) rfl
theorem kc_136_57 : xe_code 136 57 = some (.goto (-55), [2]) := kg_136_0 (i := 30) rfl
theorem kc_136_60 : xe_code 136 60 = some (.return_, []) := kg_136_0 (i := 31) rfl
theorem kc_137_0 : xe_code 137 0 = some (.aload_n 0, []) := kg_137_0 (i := 0) rfl
theorem kc_137_1 : xe_code 137 1 = some (.getfield 10, [0, 0, 369]) := kg_137_0 (i := 1) rfl
theorem kc_137_4 : xe_code 137 4 = some (.iload_n 2, []) := kg_137_0 (i := 2) rfl
theorem kc_137_5 : xe_code 137 5 = some (.invokevirtual 157, [108, 1, 515, 4]) := kg_137_0 (i := 3) rfl
theorem kc_137_8 : xe_code 137 8 = some (.ifCond .ne 9, [17]) := kg_137_0 (i := 4) rfl
theorem kc_137_11 : xe_code 137 11 = some (.aload_n 0, []) := kg_137_0 (i := 5) rfl
theorem kc_137_12 : xe_code 137 12 = some (.iconst (-1), []) := kg_137_0 (i := 6) rfl
theorem kc_137_13 : xe_code 137 13 = some (.invokevirtual 72, [90, 1, 407, 0]) := kg_137_0 (i := 7) rfl
theorem kc_137_16 : xe_code 137 16 = some (.ireturn, []) := kg_137_0 (i := 8) rfl
theorem kc_137_17 : xe_code 137 17 = some (.aload_n 0, []) := kg_137_0 (i := 9) rfl
theorem kc_137_18 : xe_code 137 18 = some (.getfield 28, [0, 2, 371]) := kg_137_0 (i := 10) rfl
theorem kc_137_21 : xe_code 137 21 = some (.iload_n 1, []) := kg_137_0 (i := 11) rfl
theorem kc_137_22 : xe_code 137 22 = some (.invokevirtual 190, [138, 1, 617, 3]) := kg_137_0 (i := 12) rfl
theorem kc_137_25 : xe_code 137 25 = some (.ifCond .ne 10, [35]) := kg_137_0 (i := 13) rfl
theorem kc_137_28 : xe_code 137 28 = some (.aload_n 0, []) := kg_137_0 (i := 14) rfl
theorem kc_137_29 : xe_code 137 29 = some (.bipush (-2), []) := kg_137_0 (i := 15) rfl
theorem kc_137_31 : xe_code 137 31 = some (.invokevirtual 72, [90, 1, 407, 0]) := kg_137_0 (i := 16) rfl
theorem kc_137_34 : xe_code 137 34 = some (.ireturn, []) := kg_137_0 (i := 17) rfl
theorem kc_137_35 : xe_code 137 35 = some (.aload_n 0, []) := kg_137_0 (i := 18) rfl
theorem kc_137_36 : xe_code 137 36 = some (.getfield 28, [0, 2, 371]) := kg_137_0 (i := 19) rfl
theorem kc_137_39 : xe_code 137 39 = some (.iload_n 1, []) := kg_137_0 (i := 20) rfl
theorem kc_137_40 : xe_code 137 40 = some (.iload_n 2, []) := kg_137_0 (i := 21) rfl
theorem kc_137_41 : xe_code 137 41 = some (.aload_n 0, []) := kg_137_0 (i := 22) rfl
theorem kc_137_42 : xe_code 137 42 = some (.getfield 148, [0, 9, 378]) := kg_137_0 (i := 23) rfl
theorem kc_137_45 : xe_code 137 45 = some (.invokevirtual 204, [141, 3, 629, 3]) := kg_137_0 (i := 24) rfl
theorem kc_137_48 : xe_code 137 48 = some (.ireturn, []) := kg_137_0 (i := 25) rfl
theorem kc_138_0 : xe_code 138 0 = some (.iload_n 1, []) := kg_138_0 (i := 0) rfl
theorem kc_138_1 : xe_code 138 1 = some (.ifCond .lt 15, [16]) := kg_138_0 (i := 1) rfl
theorem kc_138_4 : xe_code 138 4 = some (.iload_n 1, []) := kg_138_0 (i := 2) rfl
theorem kc_138_5 : xe_code 138 5 = some (.aload_n 0, []) := kg_138_0 (i := 3) rfl
theorem kc_138_6 : xe_code 138 6 = some (.invokevirtual 47, [139, 0, 621, 3]) := kg_138_0 (i := 4) rfl
theorem kc_138_9 : xe_code 138 9 = some (.if_icmp .ge 7, [16]) := kg_138_0 (i := 5) rfl
theorem kc_138_12 : xe_code 138 12 = some (.iconst 1, []) := kg_138_0 (i := 6) rfl
theorem kc_138_13 : xe_code 138 13 = some (.goto 4, [17]) := kg_138_0 (i := 7) rfl
theorem kc_138_16 : xe_code 138 16 = some (.iconst 0, []) := kg_138_0 (i := 8) rfl
theorem kc_138_17 : xe_code 138 17 = some (.ireturn, []) := kg_138_0 (i := 9) rfl
theorem kc_139_0 : xe_code 139 0 = some (.iconst 1, []) := kg_139_0 (i := 0) rfl
theorem kc_139_1 : xe_code 139 1 = some (.aload_n 0, []) := kg_139_0 (i := 1) rfl
theorem kc_139_2 : xe_code 139 2 = some (.getfield 35, [3, 0, 232]) := kg_139_0 (i := 2) rfl
theorem kc_139_5 : xe_code 139 5 = some (.invokevirtual 87, [140, 0, 625, 4]) := kg_139_0 (i := 3) rfl
theorem kc_139_8 : xe_code 139 8 = some (.ishl, []) := kg_139_0 (i := 4) rfl
theorem kc_139_9 : xe_code 139 9 = some (.ireturn, []) := kg_139_0 (i := 5) rfl
theorem kc_140_0 : xe_code 140 0 = some (.aload_n 0, []) := kg_140_0 (i := 0) rfl
theorem kc_140_1 : xe_code 140 1 = some (.getfield 79, [4, 5, 177]) := kg_140_0 (i := 1) rfl
theorem kc_140_4 : xe_code 140 4 = some (.bipush 6, []) := kg_140_0 (i := 2) rfl
theorem kc_140_6 : xe_code 140 6 = some (.if_icmp .ge 10, [16]) := kg_140_0 (i := 3) rfl
theorem kc_140_9 : xe_code 140 9 = some (.aload_n 0, []) := kg_140_0 (i := 4) rfl
theorem kc_140_10 : xe_code 140 10 = some (.getfield 79, [4, 5, 177]) := kg_140_0 (i := 5) rfl
theorem kc_140_13 : xe_code 140 13 = some (.goto 5, [18]) := kg_140_0 (i := 6) rfl
theorem kc_140_16 : xe_code 140 16 = some (.bipush 6, []) := kg_140_0 (i := 7) rfl
theorem kc_140_18 : xe_code 140 18 = some (.ireturn, []) := kg_140_0 (i := 8) rfl
theorem kc_141_0 : xe_code 141 0 = some (.aload_n 0, []) := kg_141_0 (i := 0) rfl
theorem kc_141_1 : xe_code 141 1 = some (.getfield 12, [3, 1, 233]) := kg_141_0 (i := 1) rfl
theorem kc_141_4 : xe_code 141 4 = some (.iload_n 1, []) := kg_141_0 (i := 2) rfl
theorem kc_141_5 : xe_code 141 5 = some (.aload_n 0, []) := kg_141_0 (i := 3) rfl
theorem kc_141_6 : xe_code 141 6 = some (.getfield 35, [3, 0, 232]) := kg_141_0 (i := 4) rfl
theorem kc_141_9 : xe_code 141 9 = some (.invokevirtual 55, [142, 0, 633, 4]) := kg_141_0 (i := 5) rfl
theorem kc_141_12 : xe_code 141 12 = some (.invokevirtual 60, [143, 2, 637, 9]) := kg_141_0 (i := 6) rfl
theorem kc_141_15 : xe_code 141 15 = some (.iconst 0, []) := kg_141_0 (i := 7) rfl
theorem kc_141_16 : xe_code 141 16 = some (.istore 4, []) := kg_141_0 (i := 8) rfl
theorem kc_141_18 : xe_code 141 18 = some (.iload 4, []) := kg_141_0 (i := 9) rfl
theorem kc_141_20 : xe_code 141 20 = some (.iload_n 3, []) := kg_141_0 (i := 10) rfl
theorem kc_141_21 : xe_code 141 21 = some (.if_icmp .ge 30, [51]) := kg_141_0 (i := 11) rfl
theorem kc_141_24 : xe_code 141 24 = some (.iload 4, []) := kg_141_0 (i := 12) rfl
theorem kc_141_26 : xe_code 141 26 = some (.sipush 600, []) := kg_141_0 (i := 13) rfl
theorem kc_141_29 : xe_code 141 29 = some (.if_icmp .ge 22, [51]) := kg_141_0 (i := 14) rfl
theorem kc_141_32 : xe_code 141 32 = some (.aload_n 0, []) := kg_141_0 (i := 15) rfl
theorem kc_141_33 : xe_code 141 33 = some (.getfield 35, [3, 0, 232]) := kg_141_0 (i := 16) rfl
theorem kc_141_36 : xe_code 141 36 = some (.aload_n 0, []) := kg_141_0 (i := 17) rfl
theorem kc_141_37 : xe_code 141 37 = some (.getfield 12, [3, 1, 233]) := kg_141_0 (i := 18) rfl
theorem kc_141_40 : xe_code 141 40 = some (.iload 4, []) := kg_141_0 (i := 19) rfl
theorem kc_141_42 : xe_code 141 42 = some (.invokevirtual 64, [124, 2, 642, 4]) := kg_141_0 (i := 20) rfl
theorem kc_141_45 : xe_code 141 45 = some (.iinc 4 1, []) := kg_141_0 (i := 21) rfl
theorem kc_141_48 : xe_code 141 48 = some (.goto (-30), [18]) := kg_141_0 (i := 22) rfl
theorem kc_141_51 : xe_code 141 51 = some (.iload_n 2, []) := kg_141_0 (i := 23) rfl
theorem kc_141_52 : xe_code 141 52 = some (.invokestatic 72, [104, 1, 643, 0]) := kg_141_0 (i := 24) rfl
theorem kc_141_55 : xe_code 141 55 = some (.ifCond .eq 15, [70]) := kg_141_0 (i := 25) rfl
theorem kc_141_58 : xe_code 141 58 = some (.aload_n 0, []) := kg_141_0 (i := 26) rfl
theorem kc_141_59 : xe_code 141 59 = some (.getfield 12, [3, 1, 233]) := kg_141_0 (i := 27) rfl
theorem kc_141_62 : xe_code 141 62 = some (.getfield 75, [9, 1, 206]) := kg_141_0 (i := 28) rfl
theorem kc_141_65 : xe_code 141 65 = some (.iload_n 2, []) := kg_141_0 (i := 29) rfl
theorem kc_141_66 : xe_code 141 66 = some (.iaload, []) := kg_141_0 (i := 30) rfl
theorem kc_141_67 : xe_code 141 67 = some (.goto 4, [71]) := kg_141_0 (i := 31) rfl
theorem kc_141_70 : xe_code 141 70 = some (.iconst 0, []) := kg_141_0 (i := 32) rfl
theorem kc_141_71 : xe_code 141 71 = some (.ireturn, []) := kg_141_0 (i := 33) rfl
theorem kc_142_0 : xe_code 142 0 = some (.iconst 0, []) := kg_142_0 (i := 0) rfl
theorem kc_142_1 : xe_code 142 1 = some (.istore_n 1, []) := kg_142_0 (i := 1) rfl
theorem kc_142_2 : xe_code 142 2 = some (.iconst 0, []) := kg_142_0 (i := 2) rfl
theorem kc_142_3 : xe_code 142 3 = some (.istore_n 2, []) := kg_142_0 (i := 3) rfl
theorem kc_142_4 : xe_code 142 4 = some (.iload_n 2, []) := kg_142_0 (i := 4) rfl
theorem kc_142_5 : xe_code 142 5 = some (.bipush 12, []) := kg_142_0 (i := 5) rfl
theorem kc_142_7 : xe_code 142 7 = some (.if_icmp .ge 35, [42]) := kg_142_0 (i := 6) rfl
theorem kc_142_10 : xe_code 142 10 = some (.aload_n 0, []) := kg_142_0 (i := 7) rfl
theorem kc_142_11 : xe_code 142 11 = some (.getfield 19, [4, 1, 172]) := kg_142_0 (i := 8) rfl
theorem kc_142_14 : xe_code 142 14 = some (.iload_n 2, []) := kg_142_0 (i := 9) rfl
theorem kc_142_15 : xe_code 142 15 = some (.aaload, []) := kg_142_0 (i := 10) rfl
theorem kc_142_16 : xe_code 142 16 = some (.invokevirtual 65, [105, 0, 493, 11]) := kg_142_0 (i := 11) rfl
theorem kc_142_19 : xe_code 142 19 = some (.ifCond .eq 17, [36]) := kg_142_0 (i := 12) rfl
theorem kc_142_22 : xe_code 142 22 = some (.iload_n 1, []) := kg_142_0 (i := 13) rfl
theorem kc_142_23 : xe_code 142 23 = some (.iconst 1, []) := kg_142_0 (i := 14) rfl
theorem kc_142_24 : xe_code 142 24 = some (.aload_n 0, []) := kg_142_0 (i := 15) rfl
theorem kc_142_25 : xe_code 142 25 = some (.getfield 19, [4, 1, 172]) := kg_142_0 (i := 16) rfl
theorem kc_142_28 : xe_code 142 28 = some (.iload_n 2, []) := kg_142_0 (i := 17) rfl
theorem kc_142_29 : xe_code 142 29 = some (.aaload, []) := kg_142_0 (i := 18) rfl
theorem kc_142_30 : xe_code 142 30 = some (.getfield 69, [11, 0, 131]) := kg_142_0 (i := 19) rfl
theorem kc_142_33 : xe_code 142 33 = some (.ishl, []) := kg_142_0 (i := 20) rfl
theorem kc_142_34 : xe_code 142 34 = some (.ior, []) := kg_142_0 (i := 21) rfl
theorem kc_142_35 : xe_code 142 35 = some (.istore_n 1, []) := kg_142_0 (i := 22) rfl
theorem kc_142_36 : xe_code 142 36 = some (.iinc 2 1, []) := kg_142_0 (i := 23) rfl
theorem kc_142_39 : xe_code 142 39 = some (.goto (-35), [4]) := kg_142_0 (i := 24) rfl
theorem kc_142_42 : xe_code 142 42 = some (.iload_n 1, []) := kg_142_0 (i := 25) rfl
theorem kc_142_43 : xe_code 142 43 = some (.ireturn, []) := kg_142_0 (i := 26) rfl
theorem kc_143_0 : xe_code 143 0 = some (.aload_n 0, []) := kg_143_0 (i := 0) rfl
theorem kc_143_1 : xe_code 143 1 = some (.getfield 9, [9, 0, 202]) := kg_143_0 (i := 1) rfl
theorem kc_143_4 : xe_code 143 4 = some (.iconst 0, []) := kg_143_0 (i := 2) rfl
theorem kc_143_5 : xe_code 143 5 = some (.invokestatic 18, [1, 2, 641, 0]) := kg_143_0 (i := 3) rfl
theorem kc_143_8 : xe_code 143 8 = some (.aload_n 0, []) := kg_143_0 (i := 4) rfl
theorem kc_143_9 : xe_code 143 9 = some (.getfield 15, [9, 1, 205]) := kg_143_0 (i := 5) rfl
theorem kc_143_12 : xe_code 143 12 = some (.iconst 0, []) := kg_143_0 (i := 6) rfl
theorem kc_143_13 : xe_code 143 13 = some (.invokestatic 18, [1, 2, 641, 0]) := kg_143_0 (i := 7) rfl
theorem kc_143_16 : xe_code 143 16 = some (.aload_n 0, []) := kg_143_0 (i := 8) rfl
theorem kc_143_17 : xe_code 143 17 = some (.iload_n 1, []) := kg_143_0 (i := 9) rfl
theorem kc_143_18 : xe_code 143 18 = some (.putfield 24, [9, 2, 209]) := kg_143_0 (i := 10) rfl
theorem kc_143_21 : xe_code 143 21 = some (.aload_n 0, []) := kg_143_0 (i := 11) rfl
theorem kc_143_22 : xe_code 143 22 = some (.iload_n 2, []) := kg_143_0 (i := 12) rfl
theorem kc_143_23 : xe_code 143 23 = some (.putfield 28, [9, 3, 213]) := kg_143_0 (i := 13) rfl
theorem kc_143_26 : xe_code 143 26 = some (.return_, []) := kg_143_0 (i := 14) rfl
theorem kc_144_0 : xe_code 144 0 = some (.aload_n 0, []) := kg_144_0 (i := 0) rfl
theorem kc_144_1 : xe_code 144 1 = some (.getfield 28, [0, 2, 371]) := kg_144_0 (i := 1) rfl
theorem kc_144_4 : xe_code 144 4 = some (.invokevirtual 207, [145, 0, 648, 3]) := kg_144_0 (i := 2) rfl
theorem kc_144_7 : xe_code 144 7 = some (.ireturn, []) := kg_144_0 (i := 3) rfl
theorem kc_145_0 : xe_code 145 0 = some (.iconst 0, []) := kg_145_0 (i := 0) rfl
theorem kc_145_1 : xe_code 145 1 = some (.istore_n 1, []) := kg_145_0 (i := 1) rfl
theorem kc_145_2 : xe_code 145 2 = some (.iconst 1, []) := kg_145_0 (i := 2) rfl
theorem kc_145_3 : xe_code 145 3 = some (.istore_n 2, []) := kg_145_0 (i := 3) rfl
theorem kc_145_4 : xe_code 145 4 = some (.iload_n 2, []) := kg_145_0 (i := 4) rfl
theorem kc_145_5 : xe_code 145 5 = some (.aload_n 0, []) := kg_145_0 (i := 5) rfl
theorem kc_145_6 : xe_code 145 6 = some (.invokevirtual 47, [139, 0, 621, 3]) := kg_145_0 (i := 6) rfl
theorem kc_145_9 : xe_code 145 9 = some (.if_icmp .ge 46, [55]) := kg_145_0 (i := 7) rfl
theorem kc_145_12 : xe_code 145 12 = some (.aload_n 0, []) := kg_145_0 (i := 8) rfl
theorem kc_145_13 : xe_code 145 13 = some (.iload_n 1, []) := kg_145_0 (i := 9) rfl
theorem kc_145_14 : xe_code 145 14 = some (.invokevirtual 78, [146, 1, 652, 3]) := kg_145_0 (i := 10) rfl
theorem kc_145_17 : xe_code 145 17 = some (.aload_n 0, []) := kg_145_0 (i := 11) rfl
theorem kc_145_18 : xe_code 145 18 = some (.iload_n 2, []) := kg_145_0 (i := 12) rfl
theorem kc_145_19 : xe_code 145 19 = some (.invokevirtual 78, [146, 1, 652, 3]) := kg_145_0 (i := 13) rfl
theorem kc_145_22 : xe_code 145 22 = some (.lsub, []) := kg_145_0 (i := 14) rfl
theorem kc_145_23 : xe_code 145 23 = some (.lstore_n 3, []) := kg_145_0 (i := 15) rfl
theorem kc_145_24 : xe_code 145 24 = some (.lload_n 3, []) := kg_145_0 (i := 16) rfl
theorem kc_145_25 : xe_code 145 25 = some (.lconst 0, []) := kg_145_0 (i := 17) rfl
theorem kc_145_26 : xe_code 145 26 = some (.lcmp, []) := kg_145_0 (i := 18) rfl
theorem kc_145_27 : xe_code 145 27 = some (.ifCond .gt 20, [47]) := kg_145_0 (i := 19) rfl
theorem kc_145_30 : xe_code 145 30 = some (.lload_n 3, []) := kg_145_0 (i := 20) rfl
theorem kc_145_31 : xe_code 145 31 = some (.lconst 0, []) := kg_145_0 (i := 21) rfl
theorem kc_145_32 : xe_code 145 32 = some (.lcmp, []) := kg_145_0 (i := 22) rfl
theorem kc_145_33 : xe_code 145 33 = some (.ifCond .ne 16, [49]) := kg_145_0 (i := 23) rfl
theorem kc_145_36 : xe_code 145 36 = some (.iload_n 2, []) := kg_145_0 (i := 24) rfl
theorem kc_145_37 : xe_code 145 37 = some (.invokestatic 82, [4, 1, 661, 0]) := kg_145_0 (i := 25) rfl
theorem kc_145_40 : xe_code 145 40 = some (.iload_n 1, []) := kg_145_0 (i := 26) rfl
theorem kc_145_41 : xe_code 145 41 = some (.invokestatic 82, [4, 1, 661, 0]) := kg_145_0 (i := 27) rfl
theorem kc_145_44 : xe_code 145 44 = some (.if_icmp .ge 5, [49]) := kg_145_0 (i := 28) rfl
theorem kc_145_47 : xe_code 145 47 = some (.iload_n 2, []) := kg_145_0 (i := 29) rfl
theorem kc_145_48 : xe_code 145 48 = some (.istore_n 1, []) := kg_145_0 (i := 30) rfl
theorem kc_145_49 : xe_code 145 49 = some (.iinc 2 1, []) := kg_145_0 (i := 31) rfl
theorem kc_145_52 : xe_code 145 52 = some (.goto (-48), [4]) := kg_145_0 (i := 32) rfl
theorem kc_145_55 : xe_code 145 55 = some (.iload_n 1, []) := kg_145_0 (i := 33) rfl
theorem kc_145_56 : xe_code 145 56 = some (.ireturn, []) := kg_145_0 (i := 34) rfl
theorem kc_146_0 : xe_code 146 0 = some (.aload_n 0, []) := kg_146_0 (i := 0) rfl
theorem kc_146_1 : xe_code 146 1 = some (.iload_n 1, []) := kg_146_0 (i := 1) rfl
theorem kc_146_2 : xe_code 146 2 = some (.invokevirtual 51, [138, 1, 656, 3]) := kg_146_0 (i := 2) rfl
theorem kc_146_5 : xe_code 146 5 = some (.ifCond .ne 5, [10]) := kg_146_0 (i := 3) rfl
theorem kc_146_8 : xe_code 146 8 = some (.lconst 0, []) := kg_146_0 (i := 4) rfl
theorem kc_146_9 : xe_code 146 9 = some (.lreturn, []) := kg_146_0 (i := 5) rfl
theorem kc_146_10 : xe_code 146 10 = some (.aload_n 0, []) := kg_146_0 (i := 6) rfl
theorem kc_146_11 : xe_code 146 11 = some (.getfield 39, [3, 7, 239]) := kg_146_0 (i := 7) rfl
theorem kc_146_14 : xe_code 146 14 = some (.iload_n 1, []) := kg_146_0 (i := 8) rfl
theorem kc_146_15 : xe_code 146 15 = some (.lshr, []) := kg_146_0 (i := 9) rfl
theorem kc_146_16 : xe_code 146 16 = some (.lconst 1, []) := kg_146_0 (i := 10) rfl
theorem kc_146_17 : xe_code 146 17 = some (.land, []) := kg_146_0 (i := 11) rfl
theorem kc_146_18 : xe_code 146 18 = some (.lconst 0, []) := kg_146_0 (i := 12) rfl
theorem kc_146_19 : xe_code 146 19 = some (.lcmp, []) := kg_146_0 (i := 13) rfl
theorem kc_146_20 : xe_code 146 20 = some (.ifCond .eq 10, [30]) := kg_146_0 (i := 14) rfl
theorem kc_146_23 : xe_code 146 23 = some (.aload_n 0, []) := kg_146_0 (i := 15) rfl
theorem kc_146_24 : xe_code 146 24 = some (.getfield 31, [3, 6, 238]) := kg_146_0 (i := 16) rfl
theorem kc_146_27 : xe_code 146 27 = some (.iload_n 1, []) := kg_146_0 (i := 17) rfl
theorem kc_146_28 : xe_code 146 28 = some (.laload, []) := kg_146_0 (i := 18) rfl
theorem kc_146_29 : xe_code 146 29 = some (.lreturn, []) := kg_146_0 (i := 19) rfl
theorem kc_146_30 : xe_code 146 30 = some (.aload_n 0, []) := kg_146_0 (i := 20) rfl
theorem kc_146_31 : xe_code 146 31 = some (.getfield 12, [3, 1, 233]) := kg_146_0 (i := 21) rfl
theorem kc_146_34 : xe_code 146 34 = some (.iload_n 1, []) := kg_146_0 (i := 22) rfl
theorem kc_146_35 : xe_code 146 35 = some (.aload_n 0, []) := kg_146_0 (i := 23) rfl
theorem kc_146_36 : xe_code 146 36 = some (.getfield 35, [3, 0, 232]) := kg_146_0 (i := 24) rfl
theorem kc_146_39 : xe_code 146 39 = some (.invokevirtual 55, [142, 0, 633, 4]) := kg_146_0 (i := 25) rfl
theorem kc_146_42 : xe_code 146 42 = some (.invokevirtual 60, [143, 2, 637, 9]) := kg_146_0 (i := 26) rfl
theorem kc_146_45 : xe_code 146 45 = some (.lconst 0, []) := kg_146_0 (i := 27) rfl
theorem kc_146_46 : xe_code 146 46 = some (.lstore_n 2, []) := kg_146_0 (i := 28) rfl
theorem kc_146_47 : xe_code 146 47 = some (.iconst 0, []) := kg_146_0 (i := 29) rfl
theorem kc_146_48 : xe_code 146 48 = some (.istore 4, []) := kg_146_0 (i := 30) rfl
theorem kc_146_50 : xe_code 146 50 = some (.iconst 0, []) := kg_146_0 (i := 31) rfl
theorem kc_146_51 : xe_code 146 51 = some (.istore 5, []) := kg_146_0 (i := 32) rfl
theorem kc_146_53 : xe_code 146 53 = some (.iload 5, []) := kg_146_0 (i := 33) rfl
theorem kc_146_55 : xe_code 146 55 = some (.aload_n 0, []) := kg_146_0 (i := 34) rfl
theorem kc_146_56 : xe_code 146 56 = some (.getfield 43, [3, 8, 240]) := kg_146_0 (i := 35) rfl
theorem kc_146_59 : xe_code 146 59 = some (.if_icmp .ge 70, [129]) := kg_146_0 (i := 36) rfl
theorem kc_146_62 : xe_code 146 62 = some (.iload 5, []) := kg_146_0 (i := 37) rfl
theorem kc_146_64 : xe_code 146 64 = some (.bipush 60, []) := kg_146_0 (i := 38) rfl
theorem kc_146_66 : xe_code 146 66 = some (.if_icmp .ge 63, [129]) := kg_146_0 (i := 39) rfl
theorem kc_146_69 : xe_code 146 69 = some (.iload 4, []) := kg_146_0 (i := 40) rfl
theorem kc_146_71 : xe_code 146 71 = some (.istore 6, []) := kg_146_0 (i := 41) rfl
theorem kc_146_73 : xe_code 146 73 = some (.iload 6, []) := kg_146_0 (i := 42) rfl
theorem kc_146_75 : xe_code 146 75 = some (.aload_n 0, []) := kg_146_0 (i := 43) rfl
theorem kc_146_76 : xe_code 146 76 = some (.getfield 22, [3, 3, 235]) := kg_146_0 (i := 44) rfl
theorem kc_146_79 : xe_code 146 79 = some (.iload 5, []) := kg_146_0 (i := 45) rfl
theorem kc_146_81 : xe_code 146 81 = some (.iaload, []) := kg_146_0 (i := 46) rfl
theorem kc_146_82 : xe_code 146 82 = some (.if_icmp .ge 22, [104]) := kg_146_0 (i := 47) rfl
theorem kc_146_85 : xe_code 146 85 = some (.aload_n 0, []) := kg_146_1 (i := 0) rfl
theorem kc_146_86 : xe_code 146 86 = some (.getfield 35, [3, 0, 232]) := kg_146_1 (i := 1) rfl
theorem kc_146_89 : xe_code 146 89 = some (.aload_n 0, []) := kg_146_1 (i := 2) rfl
theorem kc_146_90 : xe_code 146 90 = some (.getfield 12, [3, 1, 233]) := kg_146_1 (i := 3) rfl
theorem kc_146_93 : xe_code 146 93 = some (.iload 6, []) := kg_146_1 (i := 4) rfl
theorem kc_146_95 : xe_code 146 95 = some (.invokevirtual 64, [124, 2, 642, 4]) := kg_146_1 (i := 5) rfl
theorem kc_146_98 : xe_code 146 98 = some (.iinc 6 1, []) := kg_146_1 (i := 6) rfl
theorem kc_146_101 : xe_code 146 101 = some (.goto (-28), [73]) := kg_146_1 (i := 7) rfl
theorem kc_146_104 : xe_code 146 104 = some (.aload_n 0, []) := kg_146_1 (i := 8) rfl
theorem kc_146_105 : xe_code 146 105 = some (.getfield 22, [3, 3, 235]) := kg_146_1 (i := 9) rfl
theorem kc_146_108 : xe_code 146 108 = some (.iload 5, []) := kg_146_1 (i := 10) rfl
theorem kc_146_110 : xe_code 146 110 = some (.iaload, []) := kg_146_1 (i := 11) rfl
theorem kc_146_111 : xe_code 146 111 = some (.istore 4, []) := kg_146_1 (i := 12) rfl
theorem kc_146_113 : xe_code 146 113 = some (.lload_n 2, []) := kg_146_1 (i := 13) rfl
theorem kc_146_114 : xe_code 146 114 = some (.aload_n 0, []) := kg_146_1 (i := 14) rfl
theorem kc_146_115 : xe_code 146 115 = some (.iload 5, []) := kg_146_1 (i := 15) rfl
theorem kc_146_117 : xe_code 146 117 = some (.invokevirtual 68, [147, 1, 657, 3]) := kg_146_1 (i := 16) rfl
theorem kc_146_120 : xe_code 146 120 = some (.i2l, []) := kg_146_1 (i := 17) rfl
theorem kc_146_121 : xe_code 146 121 = some (.ladd, []) := kg_146_1 (i := 18) rfl
theorem kc_146_122 : xe_code 146 122 = some (.lstore_n 2, []) := kg_146_1 (i := 19) rfl
theorem kc_146_123 : xe_code 146 123 = some (.iinc 5 1, []) := kg_146_1 (i := 20) rfl
theorem kc_146_126 : xe_code 146 126 = some (.goto (-73), [53]) := kg_146_1 (i := 21) rfl
theorem kc_146_129 : xe_code 146 129 = some (.aload_n 0, []) := kg_146_1 (i := 22) rfl
theorem kc_146_130 : xe_code 146 130 = some (.getfield 31, [3, 6, 238]) := kg_146_1 (i := 23) rfl
theorem kc_146_133 : xe_code 146 133 = some (.iload_n 1, []) := kg_146_1 (i := 24) rfl
theorem kc_146_134 : xe_code 146 134 = some (.lload_n 2, []) := kg_146_1 (i := 25) rfl
theorem kc_146_135 : xe_code 146 135 = some (.lastore, []) := kg_146_1 (i := 26) rfl
theorem kc_146_136 : xe_code 146 136 = some (.aload_n 0, []) := kg_146_1 (i := 27) rfl
theorem kc_146_137 : xe_code 146 137 = some (.dup, []) := kg_146_1 (i := 28) rfl
theorem kc_146_138 : xe_code 146 138 = some (.getfield 39, [3, 7, 239]) := kg_146_1 (i := 29) rfl
theorem kc_146_141 : xe_code 146 141 = some (.lconst 1, []) := kg_146_1 (i := 30) rfl
theorem kc_146_142 : xe_code 146 142 = some (.iload_n 1, []) := kg_146_1 (i := 31) rfl
theorem kc_146_143 : xe_code 146 143 = some (.lshl, []) := kg_146_1 (i := 32) rfl
theorem kc_146_144 : xe_code 146 144 = some (.lor, []) := kg_146_1 (i := 33) rfl
theorem kc_146_145 : xe_code 146 145 = some (.putfield 39, [3, 7, 239]) := kg_146_1 (i := 34) rfl
theorem kc_146_148 : xe_code 146 148 = some (.lload_n 2, []) := kg_146_1 (i := 35) rfl
theorem kc_146_149 : xe_code 146 149 = some (.lreturn, []) := kg_146_1 (i := 36) rfl
theorem kc_147_0 : xe_code 147 0 = some (.iload_n 1, []) := kg_147_0 (i := 0) rfl
theorem kc_147_1 : xe_code 147 1 = some (.ifCond .lt 21, [22]) := kg_147_0 (i := 1) rfl
theorem kc_147_4 : xe_code 147 4 = some (.iload_n 1, []) := kg_147_0 (i := 2) rfl
theorem kc_147_5 : xe_code 147 5 = some (.bipush 60, []) := kg_147_0 (i := 3) rfl
theorem kc_147_7 : xe_code 147 7 = some (.if_icmp .ge 15, [22]) := kg_147_0 (i := 4) rfl
theorem kc_147_10 : xe_code 147 10 = some (.aload_n 0, []) := kg_147_0 (i := 5) rfl
theorem kc_147_11 : xe_code 147 11 = some (.getfield 18, [3, 2, 234]) := kg_147_0 (i := 6) rfl
theorem kc_147_14 : xe_code 147 14 = some (.iload_n 1, []) := kg_147_0 (i := 7) rfl
theorem kc_147_15 : xe_code 147 15 = some (.iaload, []) := kg_147_0 (i := 8) rfl
theorem kc_147_16 : xe_code 147 16 = some (.invokestatic 72, [104, 1, 643, 0]) := kg_147_0 (i := 9) rfl
theorem kc_147_19 : xe_code 147 19 = some (.ifCond .ne 5, [24]) := kg_147_0 (i := 10) rfl
theorem kc_147_22 : xe_code 147 22 = some (.iconst 0, []) := kg_147_0 (i := 11) rfl
theorem kc_147_23 : xe_code 147 23 = some (.ireturn, []) := kg_147_0 (i := 12) rfl
theorem kc_147_24 : xe_code 147 24 = some (.aload_n 0, []) := kg_147_0 (i := 13) rfl
theorem kc_147_25 : xe_code 147 25 = some (.getfield 12, [3, 1, 233]) := kg_147_0 (i := 14) rfl
theorem kc_147_28 : xe_code 147 28 = some (.getfield 75, [9, 1, 206]) := kg_147_0 (i := 15) rfl
theorem kc_147_31 : xe_code 147 31 = some (.aload_n 0, []) := kg_147_0 (i := 16) rfl
theorem kc_147_32 : xe_code 147 32 = some (.getfield 18, [3, 2, 234]) := kg_147_0 (i := 17) rfl
theorem kc_147_35 : xe_code 147 35 = some (.iload_n 1, []) := kg_147_0 (i := 18) rfl
theorem kc_147_36 : xe_code 147 36 = some (.iaload, []) := kg_147_0 (i := 19) rfl
theorem kc_147_37 : xe_code 147 37 = some (.iaload, []) := kg_147_0 (i := 20) rfl
theorem kc_147_38 : xe_code 147 38 = some (.istore_n 2, []) := kg_147_0 (i := 21) rfl
theorem kc_147_39 : xe_code 147 39 = some (.iload_n 2, []) := kg_147_0 (i := 22) rfl
theorem kc_147_40 : xe_code 147 40 = some (.aload_n 0, []) := kg_147_0 (i := 23) rfl
theorem kc_147_41 : xe_code 147 41 = some (.getfield 25, [3, 4, 236]) := kg_147_0 (i := 24) rfl
theorem kc_147_44 : xe_code 147 44 = some (.iload_n 1, []) := kg_147_0 (i := 25) rfl
theorem kc_147_45 : xe_code 147 45 = some (.iaload, []) := kg_147_0 (i := 26) rfl
theorem kc_147_46 : xe_code 147 46 = some (.if_icmp .ge 12, [58]) := kg_147_0 (i := 27) rfl
theorem kc_147_49 : xe_code 147 49 = some (.aload_n 0, []) := kg_147_0 (i := 28) rfl
theorem kc_147_50 : xe_code 147 50 = some (.getfield 25, [3, 4, 236]) := kg_147_0 (i := 29) rfl
theorem kc_147_53 : xe_code 147 53 = some (.iload_n 1, []) := kg_147_0 (i := 30) rfl
theorem kc_147_54 : xe_code 147 54 = some (.iaload, []) := kg_147_0 (i := 31) rfl
theorem kc_147_55 : xe_code 147 55 = some (.iload_n 2, []) := kg_147_0 (i := 32) rfl
theorem kc_147_56 : xe_code 147 56 = some (.isub, []) := kg_147_0 (i := 33) rfl
theorem kc_147_57 : xe_code 147 57 = some (.ireturn, []) := kg_147_0 (i := 34) rfl
theorem kc_147_58 : xe_code 147 58 = some (.iload_n 2, []) := kg_147_0 (i := 35) rfl
theorem kc_147_59 : xe_code 147 59 = some (.aload_n 0, []) := kg_147_0 (i := 36) rfl
theorem kc_147_60 : xe_code 147 60 = some (.getfield 28, [3, 5, 237]) := kg_147_0 (i := 37) rfl
theorem kc_147_63 : xe_code 147 63 = some (.iload_n 1, []) := kg_147_0 (i := 38) rfl
theorem kc_147_64 : xe_code 147 64 = some (.iaload, []) := kg_147_0 (i := 39) rfl
theorem kc_147_65 : xe_code 147 65 = some (.if_icmp .le 14, [79]) := kg_147_0 (i := 40) rfl
theorem kc_147_68 : xe_code 147 68 = some (.iload_n 2, []) := kg_147_0 (i := 41) rfl
theorem kc_147_69 : xe_code 147 69 = some (.aload_n 0, []) := kg_147_0 (i := 42) rfl
theorem kc_147_70 : xe_code 147 70 = some (.getfield 28, [3, 5, 237]) := kg_147_0 (i := 43) rfl
theorem kc_147_73 : xe_code 147 73 = some (.iload_n 1, []) := kg_147_0 (i := 44) rfl
theorem kc_147_74 : xe_code 147 74 = some (.iaload, []) := kg_147_0 (i := 45) rfl
theorem kc_147_75 : xe_code 147 75 = some (.isub, []) := kg_147_0 (i := 46) rfl
theorem kc_147_76 : xe_code 147 76 = some (.goto 4, [80]) := kg_147_0 (i := 47) rfl
theorem kc_147_79 : xe_code 147 79 = some (.iconst 0, []) := kg_147_1 (i := 0) rfl
theorem kc_147_80 : xe_code 147 80 = some (.ireturn, []) := kg_147_1 (i := 1) rfl
