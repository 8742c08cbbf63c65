theorem ck_0 : xk_0.all (xe_ck 0) = true := ck_0_0
theorem ck_1 : xk_1.all (xe_ck 1) = true := ck_1_0
theorem ck_2 : xk_2.all (xe_ck 2) = true := ck_2_0
theorem ck_3 : xk_3.all (xe_ck 3) = true := ck_3_0
theorem ck_4 : xk_4.all (xe_ck 4) = true := ck_4_0
theorem ck_5 : xk_5.all (xe_ck 5) = true := xe_allapp ck_5_0 (ck_5_1)
theorem ck_6 : xk_6.all (xe_ck 6) = true := ck_6_0
theorem ck_7 : xk_7.all (xe_ck 7) = true := ck_7_0
theorem ck_8 : xk_8.all (xe_ck 8) = true := xe_allapp ck_8_0 (xe_allapp ck_8_1 (xe_allapp ck_8_2 (xe_allapp ck_8_3 (xe_allapp ck_8_4 (xe_allapp ck_8_5 (xe_allapp ck_8_6 (ck_8_7)))))))
theorem ck_9 : xk_9.all (xe_ck 9) = true := xe_allapp ck_9_0 (ck_9_1)
theorem ck_10 : xk_10.all (xe_ck 10) = true := ck_10_0
theorem ck_11 : xk_11.all (xe_ck 11) = true := ck_11_0
theorem ck_12 : xk_12.all (xe_ck 12) = true := ck_12_0
theorem ck_13 : xk_13.all (xe_ck 13) = true := ck_13_0
theorem ck_14 : xk_14.all (xe_ck 14) = true := xe_allapp ck_14_0 (ck_14_1)
theorem ck_15 : xk_15.all (xe_ck 15) = true := xe_allapp ck_15_0 (ck_15_1)
theorem ck_16 : xk_16.all (xe_ck 16) = true := xe_allapp ck_16_0 (ck_16_1)
theorem ck_17 : xk_17.all (xe_ck 17) = true := ck_17_0
theorem ck_18 : xk_18.all (xe_ck 18) = true := ck_18_0
theorem ck_19 : xk_19.all (xe_ck 19) = true := ck_19_0
theorem ck_20 : xk_20.all (xe_ck 20) = true := ck_20_0
theorem ck_21 : xk_21.all (xe_ck 21) = true := ck_21_0
theorem ck_22 : xk_22.all (xe_ck 22) = true := ck_22_0
theorem ck_23 : xk_23.all (xe_ck 23) = true := xe_allapp ck_23_0 (ck_23_1)
theorem ck_24 : xk_24.all (xe_ck 24) = true := ck_24_0
theorem ck_25 : xk_25.all (xe_ck 25) = true := xe_allapp ck_25_0 (ck_25_1)
theorem ck_26 : xk_26.all (xe_ck 26) = true := ck_26_0
theorem ck_27 : xk_27.all (xe_ck 27) = true := ck_27_0
theorem ck_28 : xk_28.all (xe_ck 28) = true := ck_28_0
theorem ck_29 : xk_29.all (xe_ck 29) = true := ck_29_0
theorem ck_30 : xk_30.all (xe_ck 30) = true := xe_allapp ck_30_0 (ck_30_1)
theorem ck_31 : xk_31.all (xe_ck 31) = true := ck_31_0
theorem ck_32 : xk_32.all (xe_ck 32) = true := xe_allapp ck_32_0 (xe_allapp ck_32_1 (ck_32_2))
theorem ck_33 : xk_33.all (xe_ck 33) = true := ck_33_0
theorem ck_34 : xk_34.all (xe_ck 34) = true := ck_34_0
theorem ck_35 : xk_35.all (xe_ck 35) = true := xe_allapp ck_35_0 (xe_allapp ck_35_1 (xe_allapp ck_35_2 (xe_allapp ck_35_3 (ck_35_4))))
theorem ck_36 : xk_36.all (xe_ck 36) = true := xe_allapp ck_36_0 (xe_allapp ck_36_1 (ck_36_2))
theorem ck_37 : xk_37.all (xe_ck 37) = true := xe_allapp ck_37_0 (xe_allapp ck_37_1 (ck_37_2))
theorem ck_38 : xk_38.all (xe_ck 38) = true := ck_38_0
theorem ck_39 : xk_39.all (xe_ck 39) = true := ck_39_0
theorem ck_40 : xk_40.all (xe_ck 40) = true := xe_allapp ck_40_0 (xe_allapp ck_40_1 (ck_40_2))
theorem ck_41 : xk_41.all (xe_ck 41) = true := ck_41_0
theorem ck_42 : xk_42.all (xe_ck 42) = true := ck_42_0
theorem ck_43 : xk_43.all (xe_ck 43) = true := ck_43_0
theorem ck_44 : xk_44.all (xe_ck 44) = true := ck_44_0
theorem ck_45 : xk_45.all (xe_ck 45) = true := xe_allapp ck_45_0 (xe_allapp ck_45_1 (ck_45_2))
theorem ck_46 : xk_46.all (xe_ck 46) = true := ck_46_0
theorem ck_47 : xk_47.all (xe_ck 47) = true := ck_47_0
theorem ck_48 : xk_48.all (xe_ck 48) = true := xe_allapp ck_48_0 (ck_48_1)
theorem ck_49 : xk_49.all (xe_ck 49) = true := ck_49_0
theorem ck_50 : xk_50.all (xe_ck 50) = true := xe_allapp ck_50_0 (ck_50_1)
theorem ck_51 : xk_51.all (xe_ck 51) = true := ck_51_0
theorem ck_52 : xk_52.all (xe_ck 52) = true := ck_52_0
theorem ck_53 : xk_53.all (xe_ck 53) = true := ck_53_0
theorem ck_54 : xk_54.all (xe_ck 54) = true := ck_54_0
theorem ck_55 : xk_55.all (xe_ck 55) = true := xe_allapp ck_55_0 (ck_55_1)
theorem ck_56 : xk_56.all (xe_ck 56) = true := ck_56_0
theorem ck_57 : xk_57.all (xe_ck 57) = true := xe_allapp ck_57_0 (ck_57_1)
theorem ck_58 : xk_58.all (xe_ck 58) = true := xe_allapp ck_58_0 (xe_allapp ck_58_1 (ck_58_2))
theorem ck_59 : xk_59.all (xe_ck 59) = true := xe_allapp ck_59_0 (ck_59_1)
theorem ck_60 : xk_60.all (xe_ck 60) = true := ck_60_0
theorem ck_61 : xk_61.all (xe_ck 61) = true := xe_allapp ck_61_0 (xe_allapp ck_61_1 (ck_61_2))
theorem ck_62 : xk_62.all (xe_ck 62) = true := xe_allapp ck_62_0 (ck_62_1)
theorem ck_63 : xk_63.all (xe_ck 63) = true := ck_63_0
theorem ck_64 : xk_64.all (xe_ck 64) = true := xe_allapp ck_64_0 (ck_64_1)
theorem ck_65 : xk_65.all (xe_ck 65) = true := ck_65_0
theorem ck_66 : xk_66.all (xe_ck 66) = true := ck_66_0
theorem ck_67 : xk_67.all (xe_ck 67) = true := ck_67_0
theorem ck_68 : xk_68.all (xe_ck 68) = true := xe_allapp ck_68_0 (xe_allapp ck_68_1 (ck_68_2))
theorem ck_69 : xk_69.all (xe_ck 69) = true := ck_69_0
theorem ck_70 : xk_70.all (xe_ck 70) = true := xe_allapp ck_70_0 (ck_70_1)
theorem ck_71 : xk_71.all (xe_ck 71) = true := ck_71_0
theorem ck_72 : xk_72.all (xe_ck 72) = true := ck_72_0
theorem ck_73 : xk_73.all (xe_ck 73) = true := xe_allapp ck_73_0 (xe_allapp ck_73_1 (ck_73_2))
theorem ck_74 : xk_74.all (xe_ck 74) = true := ck_74_0
theorem ck_75 : xk_75.all (xe_ck 75) = true := xe_allapp ck_75_0 (xe_allapp ck_75_1 (ck_75_2))
theorem ck_76 : xk_76.all (xe_ck 76) = true := xe_allapp ck_76_0 (ck_76_1)
theorem ck_77 : xk_77.all (xe_ck 77) = true := xe_allapp ck_77_0 (ck_77_1)
theorem ck_78 : xk_78.all (xe_ck 78) = true := ck_78_0
theorem ck_79 : xk_79.all (xe_ck 79) = true := ck_79_0
theorem ck_80 : xk_80.all (xe_ck 80) = true := ck_80_0
theorem ck_81 : xk_81.all (xe_ck 81) = true := ck_81_0
theorem ck_82 : xk_82.all (xe_ck 82) = true := ck_82_0
theorem ck_83 : xk_83.all (xe_ck 83) = true := ck_83_0
theorem ck_84 : xk_84.all (xe_ck 84) = true := ck_84_0
theorem ck_85 : xk_85.all (xe_ck 85) = true := ck_85_0
theorem ck_86 : xk_86.all (xe_ck 86) = true := ck_86_0
theorem ck_87 : xk_87.all (xe_ck 87) = true := ck_87_0
theorem ck_88 : xk_88.all (xe_ck 88) = true := xe_allapp ck_88_0 (ck_88_1)
theorem ck_89 : xk_89.all (xe_ck 89) = true := ck_89_0
theorem ck_90 : xk_90.all (xe_ck 90) = true := ck_90_0
theorem ck_91 : xk_91.all (xe_ck 91) = true := ck_91_0
theorem ck_92 : xk_92.all (xe_ck 92) = true := ck_92_0
theorem ck_93 : xk_93.all (xe_ck 93) = true := ck_93_0
theorem ck_94 : xk_94.all (xe_ck 94) = true := ck_94_0
theorem ck_95 : xk_95.all (xe_ck 95) = true := xe_allapp ck_95_0 (ck_95_1)
theorem ck_96 : xk_96.all (xe_ck 96) = true := ck_96_0
theorem ck_97 : xk_97.all (xe_ck 97) = true := ck_97_0
theorem ck_98 : xk_98.all (xe_ck 98) = true := xe_allapp ck_98_0 (ck_98_1)
theorem ck_99 : xk_99.all (xe_ck 99) = true := ck_99_0
theorem ck_100 : xk_100.all (xe_ck 100) = true := ck_100_0
theorem ck_101 : xk_101.all (xe_ck 101) = true := ck_101_0
theorem ck_102 : xk_102.all (xe_ck 102) = true := ck_102_0
theorem ck_103 : xk_103.all (xe_ck 103) = true := xe_allapp ck_103_0 (ck_103_1)
theorem ck_104 : xk_104.all (xe_ck 104) = true := ck_104_0
theorem ck_105 : xk_105.all (xe_ck 105) = true := ck_105_0
theorem ck_106 : xk_106.all (xe_ck 106) = true := ck_106_0
theorem ck_107 : xk_107.all (xe_ck 107) = true := ck_107_0
theorem ck_108 : xk_108.all (xe_ck 108) = true := ck_108_0
theorem ck_109 : xk_109.all (xe_ck 109) = true := ck_109_0
theorem ck_110 : xk_110.all (xe_ck 110) = true := ck_110_0
theorem ck_111 : xk_111.all (xe_ck 111) = true := ck_111_0
theorem ck_112 : xk_112.all (xe_ck 112) = true := ck_112_0
theorem ck_113 : xk_113.all (xe_ck 113) = true := xe_allapp ck_113_0 (ck_113_1)
theorem ck_114 : xk_114.all (xe_ck 114) = true := ck_114_0
theorem ck_115 : xk_115.all (xe_ck 115) = true := ck_115_0
theorem ck_116 : xk_116.all (xe_ck 116) = true := xe_allapp ck_116_0 (ck_116_1)
theorem ck_117 : xk_117.all (xe_ck 117) = true := ck_117_0
theorem ck_118 : xk_118.all (xe_ck 118) = true := ck_118_0
theorem ck_119 : xk_119.all (xe_ck 119) = true := ck_119_0
theorem ck_120 : xk_120.all (xe_ck 120) = true := ck_120_0
theorem ck_121 : xk_121.all (xe_ck 121) = true := ck_121_0
theorem ck_122 : xk_122.all (xe_ck 122) = true := ck_122_0
theorem ck_123 : xk_123.all (xe_ck 123) = true := ck_123_0
theorem ck_124 : xk_124.all (xe_ck 124) = true := ck_124_0
theorem ck_125 : xk_125.all (xe_ck 125) = true := ck_125_0
theorem ck_126 : xk_126.all (xe_ck 126) = true := ck_126_0
theorem ck_127 : xk_127.all (xe_ck 127) = true := ck_127_0
theorem ck_128 : xk_128.all (xe_ck 128) = true := xe_allapp ck_128_0 (ck_128_1)
theorem ck_129 : xk_129.all (xe_ck 129) = true := ck_129_0
theorem ck_130 : xk_130.all (xe_ck 130) = true := xe_allapp ck_130_0 (ck_130_1)
theorem ck_131 : xk_131.all (xe_ck 131) = true := ck_131_0
theorem ck_132 : xk_132.all (xe_ck 132) = true := ck_132_0
theorem ck_133 : xk_133.all (xe_ck 133) = true := ck_133_0
theorem ck_134 : xk_134.all (xe_ck 134) = true := ck_134_0
theorem ck_135 : xk_135.all (xe_ck 135) = true := ck_135_0
theorem ck_136 : xk_136.all (xe_ck 136) = true := ck_136_0
theorem ck_137 : xk_137.all (xe_ck 137) = true := ck_137_0
theorem ck_138 : xk_138.all (xe_ck 138) = true := ck_138_0
theorem ck_139 : xk_139.all (xe_ck 139) = true := ck_139_0
theorem ck_140 : xk_140.all (xe_ck 140) = true := ck_140_0
theorem ck_141 : xk_141.all (xe_ck 141) = true := ck_141_0
theorem ck_142 : xk_142.all (xe_ck 142) = true := ck_142_0
theorem ck_143 : xk_143.all (xe_ck 143) = true := ck_143_0
theorem ck_144 : xk_144.all (xe_ck 144) = true := ck_144_0
theorem ck_145 : xk_145.all (xe_ck 145) = true := ck_145_0
theorem ck_146 : xk_146.all (xe_ck 146) = true := xe_allapp ck_146_0 (ck_146_1)
theorem ck_147 : xk_147.all (xe_ck 147) = true := xe_allapp ck_147_0 (ck_147_1)
theorem ck_148 : xk_148.all (xe_ck 148) = true := ck_148_0
theorem ck_149 : xk_149.all (xe_ck 149) = true := ck_149_0
theorem ck_150 : xk_150.all (xe_ck 150) = true := ck_150_0
theorem ck_151 : xk_151.all (xe_ck 151) = true := ck_151_0
theorem ck_152 : xk_152.all (xe_ck 152) = true := ck_152_0
theorem ck_153 : xk_153.all (xe_ck 153) = true := ck_153_0
theorem ck_154 : xk_154.all (xe_ck 154) = true := ck_154_0
theorem ck_155 : xk_155.all (xe_ck 155) = true := ck_155_0
theorem ck_156 : xk_156.all (xe_ck 156) = true := ck_156_0
theorem ck_157 : xk_157.all (xe_ck 157) = true := ck_157_0
theorem ck_158 : xk_158.all (xe_ck 158) = true := ck_158_0
theorem ck_159 : xk_159.all (xe_ck 159) = true := xe_allapp ck_159_0 (ck_159_1)
theorem ck_160 : xk_160.all (xe_ck 160) = true := ck_160_0
theorem ck_161 : xk_161.all (xe_ck 161) = true := ck_161_0
theorem ck_162 : xk_162.all (xe_ck 162) = true := xe_allapp ck_162_0 (xe_allapp ck_162_1 (ck_162_2))
theorem ck_163 : xk_163.all (xe_ck 163) = true := xe_allapp ck_163_0 (ck_163_1)
theorem ck_164 : xk_164.all (xe_ck 164) = true := ck_164_0
theorem ck_165 : xk_165.all (xe_ck 165) = true := xe_allapp ck_165_0 (ck_165_1)
theorem ck_166 : xk_166.all (xe_ck 166) = true := xe_allapp ck_166_0 (ck_166_1)
theorem ck_167 : xk_167.all (xe_ck 167) = true := ck_167_0
theorem ck_168 : xk_168.all (xe_ck 168) = true := ck_168_0
theorem ck_169 : xk_169.all (xe_ck 169) = true := ck_169_0
theorem ck_170 : xk_170.all (xe_ck 170) = true := ck_170_0
theorem ck_171 : xk_171.all (xe_ck 171) = true := ck_171_0
theorem ck_172 : xk_172.all (xe_ck 172) = true := ck_172_0
theorem ck_173 : xk_173.all (xe_ck 173) = true := ck_173_0
theorem ck_174 : xk_174.all (xe_ck 174) = true := ck_174_0
theorem ck_175 : xk_175.all (xe_ck 175) = true := ck_175_0
theorem ck_176 : xk_176.all (xe_ck 176) = true := xe_allapp ck_176_0 (ck_176_1)
theorem ck_177 : xk_177.all (xe_ck 177) = true := ck_177_0
theorem ck_178 : xk_178.all (xe_ck 178) = true := ck_178_0
theorem ck_179 : xk_179.all (xe_ck 179) = true := ck_179_0
theorem ck_180 : xk_180.all (xe_ck 180) = true := ck_180_0
theorem ck_181 : xk_181.all (xe_ck 181) = true := ck_181_0
theorem ck_182 : xk_182.all (xe_ck 182) = true := xe_allapp ck_182_0 (ck_182_1)
theorem ck_183 : xk_183.all (xe_ck 183) = true := ck_183_0
theorem ck_184 : xk_184.all (xe_ck 184) = true := ck_184_0
theorem ck_185 : xk_185.all (xe_ck 185) = true := ck_185_0
theorem ck_186 : xk_186.all (xe_ck 186) = true := ck_186_0
theorem ck_187 : xk_187.all (xe_ck 187) = true := ck_187_0
theorem ck_188 : xk_188.all (xe_ck 188) = true := ck_188_0
theorem ck_189 : xk_189.all (xe_ck 189) = true := ck_189_0
theorem ck_190 : xk_190.all (xe_ck 190) = true := xe_allapp ck_190_0 (ck_190_1)
theorem ck_191 : xk_191.all (xe_ck 191) = true := ck_191_0
theorem ck_192 : xk_192.all (xe_ck 192) = true := ck_192_0
theorem ck_193 : xk_193.all (xe_ck 193) = true := ck_193_0
theorem ck_194 : xk_194.all (xe_ck 194) = true := ck_194_0
theorem ck_195 : xk_195.all (xe_ck 195) = true := xe_allapp ck_195_0 (xe_allapp ck_195_1 (xe_allapp ck_195_2 (xe_allapp ck_195_3 (xe_allapp ck_195_4 (xe_allapp ck_195_5 (xe_allapp ck_195_6 (xe_allapp ck_195_7 (xe_allapp ck_195_8 (xe_allapp ck_195_9 (xe_allapp ck_195_10 (xe_allapp ck_195_11 (xe_allapp ck_195_12 (xe_allapp ck_195_13 (xe_allapp ck_195_14 (xe_allapp ck_195_15 (xe_allapp ck_195_16 (xe_allapp ck_195_17 (xe_allapp ck_195_18 (ck_195_19)))))))))))))))))))
theorem xe_allF_ok : xe_allF 0 xe_cds := ⟨ck_0, ck_1, ck_2, ck_3, ck_4, ck_5, ck_6, ck_7, ck_8, ck_9, ck_10, ck_11, ck_12, ck_13, ck_14, ck_15, ck_16, ck_17, ck_18, ck_19, ck_20, ck_21, ck_22, ck_23, ck_24, ck_25, ck_26, ck_27, ck_28, ck_29, ck_30, ck_31, ck_32, ck_33, ck_34, ck_35, ck_36, ck_37, ck_38, ck_39, ck_40, ck_41, ck_42, ck_43, ck_44, ck_45, ck_46, ck_47, ck_48, ck_49, ck_50, ck_51, ck_52, ck_53, ck_54, ck_55, ck_56, ck_57, ck_58, ck_59, ck_60, ck_61, ck_62, ck_63, ck_64, ck_65, ck_66, ck_67, ck_68, ck_69, ck_70, ck_71, ck_72, ck_73, ck_74, ck_75, ck_76, ck_77, ck_78, ck_79, ck_80, ck_81, ck_82, ck_83, ck_84, ck_85, ck_86, ck_87, ck_88, ck_89, ck_90, ck_91, ck_92, ck_93, ck_94, ck_95, ck_96, ck_97, ck_98, ck_99, ck_100, ck_101, ck_102, ck_103, ck_104, ck_105, ck_106, ck_107, ck_108, ck_109, ck_110, ck_111, ck_112, ck_113, ck_114, ck_115, ck_116, ck_117, ck_118, ck_119, ck_120, ck_121, ck_122, ck_123, ck_124, ck_125, ck_126, ck_127, ck_128, ck_129, ck_130, ck_131, ck_132, ck_133, ck_134, ck_135, ck_136, ck_137, ck_138, ck_139, ck_140, ck_141, ck_142, ck_143, ck_144, ck_145, ck_146, ck_147, ck_148, ck_149, ck_150, ck_151, ck_152, ck_153, ck_154, ck_155, ck_156, ck_157, ck_158, ck_159, ck_160, ck_161, ck_162, ck_163, ck_164, ck_165, ck_166, ck_167, ck_168, ck_169, ck_170, ck_171, ck_172, ck_173, ck_174, ck_175, ck_176, ck_177, ck_178, ck_179, ck_180, ck_181, ck_182, ck_183, ck_184, ck_185, ck_186, ck_187, ck_188, ck_189, ck_190, ck_191, ck_192, ck_193, ck_194, ck_195, trivial⟩
theorem xe_ok {mi pc : Nat} {i : Instr} {ax : List Nat} (h : xe_code mi pc = some (i, ax)) : xe_dec mi pc i = true ∧ xe_wd mi pc i ax = true := by
  unfold xe_code at h
  cases hf : (xe_cds.getD mi []).find? (fun q => q.1 == pc) with
  | none => rw [hf] at h; cases h
  | some q =>
    rw [hf] at h
    have h1 := List.find?_some hf
    have h2 := List.mem_of_find?_eq_some hf
    have h3 := xe_allF_get xe_cds 0 xe_allF_ok mi
    rw [Nat.zero_add] at h3
    have h4 := List.all_eq_true.mp h3 q h2
    have e1 : q.1 = pc := by simpa using h1
    have e2 : q.2 = (i, ax) := Option.some.inj h
    unfold xe_ck at h4
    rw [Bool.and_eq_true, e1, e2] at h4
    exact h4
