theorem ml_0 : xe_mL 0 = 1 := rfl
theorem ml_1 : xe_mL 1 = 4 := rfl
theorem ml_2 : xe_mL 2 = 1 := rfl
theorem ml_3 : xe_mL 3 = 3 := rfl
theorem ml_4 : xe_mL 4 = 1 := rfl
theorem ml_5 : xe_mL 5 = 2 := rfl
theorem ml_6 : xe_mL 6 = 2 := rfl
theorem ml_7 : xe_mL 7 = 2 := rfl
theorem ml_8 : xe_mL 8 = 2 := rfl
theorem ml_9 : xe_mL 9 = 5 := rfl
theorem ml_10 : xe_mL 10 = 1 := rfl
theorem ml_11 : xe_mL 11 = 3 := rfl
theorem ml_12 : xe_mL 12 = 2 := rfl
theorem ml_13 : xe_mL 13 = 3 := rfl
theorem ml_14 : xe_mL 14 = 4 := rfl
theorem ml_15 : xe_mL 15 = 5 := rfl
theorem ml_16 : xe_mL 16 = 5 := rfl
theorem ml_17 : xe_mL 17 = 2 := rfl
theorem ml_18 : xe_mL 18 = 3 := rfl
theorem ml_19 : xe_mL 19 = 3 := rfl
theorem ml_20 : xe_mL 20 = 3 := rfl
theorem ml_21 : xe_mL 21 = 2 := rfl
theorem ml_22 : xe_mL 22 = 2 := rfl
theorem ml_23 : xe_mL 23 = 6 := rfl
theorem ml_24 : xe_mL 24 = 1 := rfl
theorem ml_25 : xe_mL 25 = 3 := rfl
theorem ml_26 : xe_mL 26 = 4 := rfl
theorem ml_27 : xe_mL 27 = 3 := rfl
theorem ml_28 : xe_mL 28 = 3 := rfl
theorem ml_29 : xe_mL 29 = 2 := rfl
theorem ml_30 : xe_mL 30 = 5 := rfl
theorem ml_31 : xe_mL 31 = 2 := rfl
theorem ml_32 : xe_mL 32 = 5 := rfl
theorem ml_33 : xe_mL 33 = 4 := rfl
theorem ml_34 : xe_mL 34 = 3 := rfl
theorem ml_35 : xe_mL 35 = 3 := rfl
theorem ml_36 : xe_mL 36 = 6 := rfl
theorem ml_37 : xe_mL 37 = 9 := rfl
theorem ml_38 : xe_mL 38 = 5 := rfl
theorem ml_39 : xe_mL 39 = 1 := rfl
theorem ml_40 : xe_mL 40 = 9 := rfl
theorem ml_41 : xe_mL 41 = 2 := rfl
theorem ml_42 : xe_mL 42 = 1 := rfl
theorem ml_43 : xe_mL 43 = 2 := rfl
theorem ml_44 : xe_mL 44 = 4 := rfl
theorem ml_45 : xe_mL 45 = 9 := rfl
theorem ml_46 : xe_mL 46 = 5 := rfl
theorem ml_47 : xe_mL 47 = 1 := rfl
theorem ml_48 : xe_mL 48 = 4 := rfl
theorem ml_49 : xe_mL 49 = 3 := rfl
theorem ml_50 : xe_mL 50 = 5 := rfl
theorem ml_51 : xe_mL 51 = 1 := rfl
theorem ml_52 : xe_mL 52 = 3 := rfl
theorem ml_53 : xe_mL 53 = 4 := rfl
theorem ml_54 : xe_mL 54 = 3 := rfl
theorem ml_55 : xe_mL 55 = 3 := rfl
theorem ml_56 : xe_mL 56 = 3 := rfl
theorem ml_57 : xe_mL 57 = 7 := rfl
theorem ml_58 : xe_mL 58 = 10 := rfl
theorem ml_59 : xe_mL 59 = 6 := rfl
theorem ml_60 : xe_mL 60 = 6 := rfl
theorem ml_61 : xe_mL 61 = 7 := rfl
theorem ml_62 : xe_mL 62 = 7 := rfl
theorem ml_63 : xe_mL 63 = 9 := rfl
theorem ml_64 : xe_mL 64 = 6 := rfl
theorem ml_65 : xe_mL 65 = 1 := rfl
theorem ml_66 : xe_mL 66 = 4 := rfl
theorem ml_67 : xe_mL 67 = 5 := rfl
theorem ml_68 : xe_mL 68 = 9 := rfl
theorem ml_69 : xe_mL 69 = 2 := rfl
theorem ml_70 : xe_mL 70 = 5 := rfl
theorem ml_71 : xe_mL 71 = 3 := rfl
theorem ml_72 : xe_mL 72 = 4 := rfl
theorem ml_73 : xe_mL 73 = 8 := rfl
theorem ml_74 : xe_mL 74 = 2 := rfl
theorem ml_75 : xe_mL 75 = 4 := rfl
theorem ml_76 : xe_mL 76 = 2 := rfl
theorem ml_77 : xe_mL 77 = 2 := rfl
theorem ml_78 : xe_mL 78 = 2 := rfl
theorem ml_79 : xe_mL 79 = 1 := rfl
theorem ml_80 : xe_mL 80 = 1 := rfl
theorem ml_81 : xe_mL 81 = 1 := rfl
theorem ml_82 : xe_mL 82 = 1 := rfl
theorem ml_83 : xe_mL 83 = 2 := rfl
theorem ml_84 : xe_mL 84 = 1 := rfl
theorem ml_85 : xe_mL 85 = 1 := rfl
theorem ml_86 : xe_mL 86 = 1 := rfl
theorem ml_87 : xe_mL 87 = 1 := rfl
theorem ml_88 : xe_mL 88 = 5 := rfl
theorem ml_89 : xe_mL 89 = 1 := rfl
theorem ml_90 : xe_mL 90 = 3 := rfl
theorem ml_91 : xe_mL 91 = 1 := rfl
theorem ml_92 : xe_mL 92 = 4 := rfl
theorem ml_93 : xe_mL 93 = 4 := rfl
theorem ml_94 : xe_mL 94 = 6 := rfl
theorem ml_95 : xe_mL 95 = 6 := rfl
theorem ml_96 : xe_mL 96 = 2 := rfl
theorem ml_97 : xe_mL 97 = 2 := rfl
theorem ml_98 : xe_mL 98 = 6 := rfl
theorem ml_99 : xe_mL 99 = 2 := rfl
theorem ml_100 : xe_mL 100 = 3 := rfl
theorem ml_101 : xe_mL 101 = 2 := rfl
theorem ml_102 : xe_mL 102 = 2 := rfl
theorem ml_103 : xe_mL 103 = 7 := rfl
theorem ml_104 : xe_mL 104 = 1 := rfl
theorem ml_105 : xe_mL 105 = 1 := rfl
theorem ml_106 : xe_mL 106 = 4 := rfl
theorem ml_107 : xe_mL 107 = 4 := rfl
theorem ml_108 : xe_mL 108 = 2 := rfl
theorem ml_109 : xe_mL 109 = 3 := rfl
theorem ml_110 : xe_mL 110 = 3 := rfl
theorem ml_111 : xe_mL 111 = 3 := rfl
theorem ml_112 : xe_mL 112 = 2 := rfl
theorem ml_113 : xe_mL 113 = 5 := rfl
theorem ml_114 : xe_mL 114 = 2 := rfl
theorem ml_115 : xe_mL 115 = 5 := rfl
theorem ml_116 : xe_mL 116 = 5 := rfl
theorem ml_117 : xe_mL 117 = 1 := rfl
theorem ml_118 : xe_mL 118 = 3 := rfl
theorem ml_119 : xe_mL 119 = 6 := rfl
theorem ml_120 : xe_mL 120 = 5 := rfl
theorem ml_121 : xe_mL 121 = 3 := rfl
theorem ml_122 : xe_mL 122 = 1 := rfl
theorem ml_123 : xe_mL 123 = 3 := rfl
theorem ml_124 : xe_mL 124 = 5 := rfl
theorem ml_125 : xe_mL 125 = 4 := rfl
theorem ml_126 : xe_mL 126 = 4 := rfl
theorem ml_127 : xe_mL 127 = 4 := rfl
theorem ml_128 : xe_mL 128 = 11 := rfl
theorem ml_129 : xe_mL 129 = 1 := rfl
theorem ml_130 : xe_mL 130 = 10 := rfl
theorem ml_131 : xe_mL 131 = 4 := rfl
theorem ml_132 : xe_mL 132 = 4 := rfl
theorem ml_133 : xe_mL 133 = 3 := rfl
theorem ml_134 : xe_mL 134 = 4 := rfl
theorem ml_135 : xe_mL 135 = 4 := rfl
theorem ml_136 : xe_mL 136 = 3 := rfl
theorem ml_137 : xe_mL 137 = 3 := rfl
theorem ml_138 : xe_mL 138 = 2 := rfl
theorem ml_139 : xe_mL 139 = 1 := rfl
theorem ml_140 : xe_mL 140 = 1 := rfl
theorem ml_141 : xe_mL 141 = 5 := rfl
theorem ml_142 : xe_mL 142 = 3 := rfl
theorem ml_143 : xe_mL 143 = 3 := rfl
theorem ml_144 : xe_mL 144 = 1 := rfl
theorem ml_145 : xe_mL 145 = 5 := rfl
theorem ml_146 : xe_mL 146 = 7 := rfl
theorem ml_147 : xe_mL 147 = 3 := rfl
theorem ml_148 : xe_mL 148 = 3 := rfl
theorem ml_149 : xe_mL 149 = 4 := rfl
theorem ml_150 : xe_mL 150 = 4 := rfl
theorem ml_151 : xe_mL 151 = 1 := rfl
theorem ml_152 : xe_mL 152 = 1 := rfl
theorem ml_153 : xe_mL 153 = 4 := rfl
theorem ml_154 : xe_mL 154 = 6 := rfl
theorem ml_155 : xe_mL 155 = 3 := rfl
theorem ml_156 : xe_mL 156 = 6 := rfl
theorem ml_157 : xe_mL 157 = 3 := rfl
theorem ml_158 : xe_mL 158 = 1 := rfl
theorem ml_159 : xe_mL 159 = 9 := rfl
theorem ml_160 : xe_mL 160 = 1 := rfl
theorem ml_161 : xe_mL 161 = 3 := rfl
theorem ml_162 : xe_mL 162 = 13 := rfl
theorem ml_163 : xe_mL 163 = 7 := rfl
theorem ml_164 : xe_mL 164 = 6 := rfl
theorem ml_165 : xe_mL 165 = 6 := rfl
theorem ml_166 : xe_mL 166 = 12 := rfl
theorem ml_167 : xe_mL 167 = 5 := rfl
theorem ml_168 : xe_mL 168 = 6 := rfl
theorem ml_169 : xe_mL 169 = 1 := rfl
theorem ml_170 : xe_mL 170 = 4 := rfl
theorem ml_171 : xe_mL 171 = 5 := rfl
theorem ml_172 : xe_mL 172 = 2 := rfl
theorem ml_173 : xe_mL 173 = 3 := rfl
theorem ml_174 : xe_mL 174 = 5 := rfl
theorem ml_175 : xe_mL 175 = 5 := rfl
theorem ml_176 : xe_mL 176 = 9 := rfl
theorem ml_177 : xe_mL 177 = 5 := rfl
theorem ml_178 : xe_mL 178 = 5 := rfl
theorem ml_179 : xe_mL 179 = 2 := rfl
theorem ml_180 : xe_mL 180 = 4 := rfl
theorem ml_181 : xe_mL 181 = 6 := rfl
theorem ml_182 : xe_mL 182 = 5 := rfl
theorem ml_183 : xe_mL 183 = 4 := rfl
theorem ml_184 : xe_mL 184 = 4 := rfl
theorem ml_185 : xe_mL 185 = 6 := rfl
theorem ml_186 : xe_mL 186 = 2 := rfl
theorem ml_187 : xe_mL 187 = 2 := rfl
theorem ml_188 : xe_mL 188 = 2 := rfl
theorem ml_189 : xe_mL 189 = 2 := rfl
theorem ml_190 : xe_mL 190 = 2 := rfl
theorem ml_191 : xe_mL 191 = 3 := rfl
theorem ml_192 : xe_mL 192 = 3 := rfl
theorem ml_193 : xe_mL 193 = 2 := rfl
theorem ml_194 : xe_mL 194 = 4 := rfl
theorem ml_195 : xe_mL 195 = 8 := rfl
theorem mr_0 : xe_mR 0 = none := rfl
theorem mr_1 : xe_mR 1 = none := rfl
theorem mr_2 : xe_mR 2 = some .int := rfl
theorem mr_3 : xe_mR 3 = some .int := rfl
theorem mr_4 : xe_mR 4 = some .int := rfl
theorem mr_5 : xe_mR 5 = some .int := rfl
theorem mr_6 : xe_mR 6 = some .int := rfl
theorem mr_7 : xe_mR 7 = some .int := rfl
theorem mr_8 : xe_mR 8 = none := rfl
theorem mr_9 : xe_mR 9 = some .int := rfl
theorem mr_10 : xe_mR 10 = some .boolean := rfl
theorem mr_11 : xe_mR 11 = some .boolean := rfl
theorem mr_12 : xe_mR 12 = some .int := rfl
theorem mr_13 : xe_mR 13 = some .int := rfl
theorem mr_14 : xe_mR 14 = none := rfl
theorem mr_15 : xe_mR 15 = some .int := rfl
theorem mr_16 : xe_mR 16 = some .int := rfl
theorem mr_17 : xe_mR 17 = some .int := rfl
theorem mr_18 : xe_mR 18 = some .int := rfl
theorem mr_19 : xe_mR 19 = some .int := rfl
theorem mr_20 : xe_mR 20 = some .int := rfl
theorem mr_21 : xe_mR 21 = some .int := rfl
theorem mr_22 : xe_mR 22 = some .int := rfl
theorem mr_23 : xe_mR 23 = some .int := rfl
theorem mr_24 : xe_mR 24 = some .boolean := rfl
theorem mr_25 : xe_mR 25 = some .int := rfl
theorem mr_26 : xe_mR 26 = some .int := rfl
theorem mr_27 : xe_mR 27 = some .int := rfl
theorem mr_28 : xe_mR 28 = some .int := rfl
theorem mr_29 : xe_mR 29 = some .int := rfl
theorem mr_30 : xe_mR 30 = some .int := rfl
theorem mr_31 : xe_mR 31 = some .boolean := rfl
theorem mr_32 : xe_mR 32 = some .int := rfl
theorem mr_33 : xe_mR 33 = some .int := rfl
theorem mr_34 : xe_mR 34 = some .int := rfl
theorem mr_35 : xe_mR 35 = none := rfl
theorem mr_36 : xe_mR 36 = none := rfl
theorem mr_37 : xe_mR 37 = none := rfl
theorem mr_38 : xe_mR 38 = some .boolean := rfl
theorem mr_39 : xe_mR 39 = some .int := rfl
theorem mr_40 : xe_mR 40 = none := rfl
theorem mr_41 : xe_mR 41 = some .long := rfl
theorem mr_42 : xe_mR 42 = some .int := rfl
theorem mr_43 : xe_mR 43 = none := rfl
theorem mr_44 : xe_mR 44 = none := rfl
theorem mr_45 : xe_mR 45 = some .long := rfl
theorem mr_46 : xe_mR 46 = some .int := rfl
theorem mr_47 : xe_mR 47 = some .int := rfl
theorem mr_48 : xe_mR 48 = some .int := rfl
theorem mr_49 : xe_mR 49 = some .int := rfl
theorem mr_50 : xe_mR 50 = some .int := rfl
theorem mr_51 : xe_mR 51 = some .int := rfl
theorem mr_52 : xe_mR 52 = some .int := rfl
theorem mr_53 : xe_mR 53 = some .boolean := rfl
theorem mr_54 : xe_mR 54 = some .int := rfl
theorem mr_55 : xe_mR 55 = some .int := rfl
theorem mr_56 : xe_mR 56 = some .int := rfl
theorem mr_57 : xe_mR 57 = some .int := rfl
theorem mr_58 : xe_mR 58 = some .int := rfl
theorem mr_59 : xe_mR 59 = some .boolean := rfl
theorem mr_60 : xe_mR 60 = some .boolean := rfl
theorem mr_61 : xe_mR 61 = some .int := rfl
theorem mr_62 : xe_mR 62 = some .int := rfl
theorem mr_63 : xe_mR 63 = some .int := rfl
theorem mr_64 : xe_mR 64 = some .int := rfl
theorem mr_65 : xe_mR 65 = some .int := rfl
theorem mr_66 : xe_mR 66 = some .int := rfl
theorem mr_67 : xe_mR 67 = some .boolean := rfl
theorem mr_68 : xe_mR 68 = some .int := rfl
theorem mr_69 : xe_mR 69 = none := rfl
theorem mr_70 : xe_mR 70 = some .int := rfl
theorem mr_71 : xe_mR 71 = some .int := rfl
theorem mr_72 : xe_mR 72 = some .int := rfl
theorem mr_73 : xe_mR 73 = some .int := rfl
theorem mr_74 : xe_mR 74 = some .int := rfl
theorem mr_75 : xe_mR 75 = some .int := rfl
theorem mr_76 : xe_mR 76 = none := rfl
theorem mr_77 : xe_mR 77 = none := rfl
theorem mr_78 : xe_mR 78 = none := rfl
theorem mr_79 : xe_mR 79 = none := rfl
theorem mr_80 : xe_mR 80 = none := rfl
theorem mr_81 : xe_mR 81 = none := rfl
theorem mr_82 : xe_mR 82 = none := rfl
theorem mr_83 : xe_mR 83 = none := rfl
theorem mr_84 : xe_mR 84 = none := rfl
theorem mr_85 : xe_mR 85 = none := rfl
theorem mr_86 : xe_mR 86 = none := rfl
theorem mr_87 : xe_mR 87 = none := rfl
theorem mr_88 : xe_mR 88 = some .int := rfl
theorem mr_89 : xe_mR 89 = some .boolean := rfl
theorem mr_90 : xe_mR 90 = some .int := rfl
theorem mr_91 : xe_mR 91 = none := rfl
theorem mr_92 : xe_mR 92 = some .int := rfl
theorem mr_93 : xe_mR 93 = some .int := rfl
theorem mr_94 : xe_mR 94 = some .int := rfl
theorem mr_95 : xe_mR 95 = some .int := rfl
theorem mr_96 : xe_mR 96 = some .int := rfl
theorem mr_97 : xe_mR 97 = some (.object "DampHouse$Series") := rfl
theorem mr_98 : xe_mR 98 = some .int := rfl
theorem mr_99 : xe_mR 99 = some .int := rfl
theorem mr_100 : xe_mR 100 = some .int := rfl
theorem mr_101 : xe_mR 101 = some .int := rfl
theorem mr_102 : xe_mR 102 = some .int := rfl
theorem mr_103 : xe_mR 103 = some .int := rfl
theorem mr_104 : xe_mR 104 = some .boolean := rfl
theorem mr_105 : xe_mR 105 = some .boolean := rfl
theorem mr_106 : xe_mR 106 = some .int := rfl
theorem mr_107 : xe_mR 107 = some .int := rfl
theorem mr_108 : xe_mR 108 = some .boolean := rfl
theorem mr_109 : xe_mR 109 = some .int := rfl
theorem mr_110 : xe_mR 110 = some .int := rfl
theorem mr_111 : xe_mR 111 = some .int := rfl
theorem mr_112 : xe_mR 112 = some .int := rfl
theorem mr_113 : xe_mR 113 = some .int := rfl
theorem mr_114 : xe_mR 114 = some .boolean := rfl
theorem mr_115 : xe_mR 115 = some .int := rfl
theorem mr_116 : xe_mR 116 = some .int := rfl
theorem mr_117 : xe_mR 117 = some .boolean := rfl
theorem mr_118 : xe_mR 118 = some .boolean := rfl
theorem mr_119 : xe_mR 119 = some .int := rfl
theorem mr_120 : xe_mR 120 = some .int := rfl
theorem mr_121 : xe_mR 121 = some .int := rfl
theorem mr_122 : xe_mR 122 = none := rfl
theorem mr_123 : xe_mR 123 = none := rfl
theorem mr_124 : xe_mR 124 = none := rfl
theorem mr_125 : xe_mR 125 = none := rfl
theorem mr_126 : xe_mR 126 = some .boolean := rfl
theorem mr_127 : xe_mR 127 = none := rfl
theorem mr_128 : xe_mR 128 = none := rfl
theorem mr_129 : xe_mR 129 = some .int := rfl
theorem mr_130 : xe_mR 130 = none := rfl
theorem mr_131 : xe_mR 131 = none := rfl
theorem mr_132 : xe_mR 132 = none := rfl
theorem mr_133 : xe_mR 133 = some .int := rfl
theorem mr_134 : xe_mR 134 = none := rfl
theorem mr_135 : xe_mR 135 = none := rfl
theorem mr_136 : xe_mR 136 = none := rfl
theorem mr_137 : xe_mR 137 = some .int := rfl
theorem mr_138 : xe_mR 138 = some .boolean := rfl
theorem mr_139 : xe_mR 139 = some .int := rfl
theorem mr_140 : xe_mR 140 = some .int := rfl
theorem mr_141 : xe_mR 141 = some .int := rfl
theorem mr_142 : xe_mR 142 = some .int := rfl
theorem mr_143 : xe_mR 143 = none := rfl
theorem mr_144 : xe_mR 144 = some .int := rfl
theorem mr_145 : xe_mR 145 = some .int := rfl
theorem mr_146 : xe_mR 146 = some .long := rfl
theorem mr_147 : xe_mR 147 = some .int := rfl
theorem mr_148 : xe_mR 148 = some .int := rfl
theorem mr_149 : xe_mR 149 = some .int := rfl
theorem mr_150 : xe_mR 150 = some .int := rfl
theorem mr_151 : xe_mR 151 = some .int := rfl
theorem mr_152 : xe_mR 152 = some .long := rfl
theorem mr_153 : xe_mR 153 = some .long := rfl
theorem mr_154 : xe_mR 154 = some .long := rfl
theorem mr_155 : xe_mR 155 = some .int := rfl
theorem mr_156 : xe_mR 156 = some .int := rfl
theorem mr_157 : xe_mR 157 = some .int := rfl
theorem mr_158 : xe_mR 158 = some .int := rfl
theorem mr_159 : xe_mR 159 = some .int := rfl
theorem mr_160 : xe_mR 160 = some .int := rfl
theorem mr_161 : xe_mR 161 = some .int := rfl
theorem mr_162 : xe_mR 162 = some .int := rfl
theorem mr_163 : xe_mR 163 = some .int := rfl
theorem mr_164 : xe_mR 164 = some .boolean := rfl
theorem mr_165 : xe_mR 165 = some .int := rfl
theorem mr_166 : xe_mR 166 = some .int := rfl
theorem mr_167 : xe_mR 167 = some .int := rfl
theorem mr_168 : xe_mR 168 = some .int := rfl
theorem mr_169 : xe_mR 169 = some .int := rfl
theorem mr_170 : xe_mR 170 = some .int := rfl
theorem mr_171 : xe_mR 171 = some .boolean := rfl
theorem mr_172 : xe_mR 172 = some .int := rfl
theorem mr_173 : xe_mR 173 = some .int := rfl
theorem mr_174 : xe_mR 174 = some .int := rfl
theorem mr_175 : xe_mR 175 = some .int := rfl
theorem mr_176 : xe_mR 176 = some .int := rfl
theorem mr_177 : xe_mR 177 = some .int := rfl
theorem mr_178 : xe_mR 178 = some .int := rfl
theorem mr_179 : xe_mR 179 = some .int := rfl
theorem mr_180 : xe_mR 180 = some .int := rfl
theorem mr_181 : xe_mR 181 = none := rfl
theorem mr_182 : xe_mR 182 = some .int := rfl
theorem mr_183 : xe_mR 183 = some .boolean := rfl
theorem mr_184 : xe_mR 184 = some .int := rfl
theorem mr_185 : xe_mR 185 = some .int := rfl
theorem mr_186 : xe_mR 186 = some .int := rfl
theorem mr_187 : xe_mR 187 = some .int := rfl
theorem mr_188 : xe_mR 188 = some .int := rfl
theorem mr_189 : xe_mR 189 = some .boolean := rfl
theorem mr_190 : xe_mR 190 = some .int := rfl
theorem mr_191 : xe_mR 191 = some .int := rfl
theorem mr_192 : xe_mR 192 = some .int := rfl
theorem mr_193 : xe_mR 193 = some .long := rfl
theorem mr_194 : xe_mR 194 = some .int := rfl
theorem mr_195 : xe_mR 195 = some .boolean := rfl
theorem kc_0_0 : xe_code 0 0 = some (.return_, []) := kg_0_0 (i := 0) rfl
theorem kc_1_0 : xe_code 1 0 = some (.iconst 0, []) := kg_1_0 (i := 0) rfl
theorem kc_1_1 : xe_code 1 1 = some (.istore_n 2, []) := kg_1_0 (i := 1) rfl
theorem kc_1_2 : xe_code 1 2 = some (.aload_n 0, []) := kg_1_0 (i := 2) rfl
theorem kc_1_3 : xe_code 1 3 = some (.arraylength, []) := kg_1_0 (i := 3) rfl
theorem kc_1_4 : xe_code 1 4 = some (.istore_n 3, []) := kg_1_0 (i := 4) rfl
theorem kc_1_5 : xe_code 1 5 = some (.iload_n 2, []) := kg_1_0 (i := 5) rfl
theorem kc_1_6 : xe_code 1 6 = some (.iload_n 3, []) := kg_1_0 (i := 6) rfl
theorem kc_1_7 : xe_code 1 7 = some (.if_icmp .ge 13, [20]) := kg_1_0 (i := 7) rfl
theorem kc_1_10 : xe_code 1 10 = some (.aload_n 0, []) := kg_1_0 (i := 8) rfl
theorem kc_1_11 : xe_code 1 11 = some (.iload_n 2, []) := kg_1_0 (i := 9) rfl
theorem kc_1_12 : xe_code 1 12 = some (.iload_n 1, []) := kg_1_0 (i := 10) rfl
theorem kc_1_13 : xe_code 1 13 = some (.iastore, []) := kg_1_0 (i := 11) rfl
theorem kc_1_14 : xe_code 1 14 = some (.iinc 2 1, []) := kg_1_0 (i := 12) rfl
theorem kc_1_17 : xe_code 1 17 = some (.goto (-12), [5]) := kg_1_0 (i := 13) rfl
theorem kc_1_20 : xe_code 1 20 = some (.return_, []) := kg_1_0 (i := 14) rfl
theorem kc_2_0 : xe_code 2 0 = some (.iload_n 0, []) := kg_2_0 (i := 0) rfl
theorem kc_2_1 : xe_code 2 1 = some (.ifCond .ge 8, [9]) := kg_2_0 (i := 1) rfl
theorem kc_2_4 : xe_code 2 4 = some (.iload_n 0, []) := kg_2_0 (i := 2) rfl
theorem kc_2_5 : xe_code 2 5 = some (.ineg, []) := kg_2_0 (i := 3) rfl
theorem kc_2_6 : xe_code 2 6 = some (.goto 4, [10]) := kg_2_0 (i := 4) rfl
theorem kc_2_9 : xe_code 2 9 = some (.iload_n 0, []) := kg_2_0 (i := 5) rfl
theorem kc_2_10 : xe_code 2 10 = some (.ireturn, []) := kg_2_0 (i := 6) rfl
theorem kc_3_0 : xe_code 3 0 = some (.iload_n 0, []) := kg_3_0 (i := 0) rfl
theorem kc_3_1 : xe_code 3 1 = some (.iload_n 1, []) := kg_3_0 (i := 1) rfl
theorem kc_3_2 : xe_code 3 2 = some (.irem, []) := kg_3_0 (i := 2) rfl
theorem kc_3_3 : xe_code 3 3 = some (.istore_n 2, []) := kg_3_0 (i := 3) rfl
theorem kc_3_4 : xe_code 3 4 = some (.iload_n 0, []) := kg_3_0 (i := 4) rfl
theorem kc_3_5 : xe_code 3 5 = some (.iload_n 1, []) := kg_3_0 (i := 5) rfl
theorem kc_3_6 : xe_code 3 6 = some (.ixor, []) := kg_3_0 (i := 6) rfl
theorem kc_3_7 : xe_code 3 7 = some (.ifCond .ge 11, [18]) := kg_3_0 (i := 7) rfl
theorem kc_3_10 : xe_code 3 10 = some (.iload_n 2, []) := kg_3_0 (i := 8) rfl
theorem kc_3_11 : xe_code 3 11 = some (.ifCond .eq 7, [18]) := kg_3_0 (i := 9) rfl
theorem kc_3_14 : xe_code 3 14 = some (.iload_n 2, []) := kg_3_0 (i := 10) rfl
theorem kc_3_15 : xe_code 3 15 = some (.iload_n 1, []) := kg_3_0 (i := 11) rfl
theorem kc_3_16 : xe_code 3 16 = some (.iadd, []) := kg_3_0 (i := 12) rfl
theorem kc_3_17 : xe_code 3 17 = some (.ireturn, []) := kg_3_0 (i := 13) rfl
theorem kc_3_18 : xe_code 3 18 = some (.iload_n 2, []) := kg_3_0 (i := 14) rfl
theorem kc_3_19 : xe_code 3 19 = some (.ireturn, []) := kg_3_0 (i := 15) rfl
theorem kc_4_0 : xe_code 4 0 = some (.iload_n 0, []) := kg_4_0 (i := 0) rfl
theorem kc_4_1 : xe_code 4 1 = some (.iload_n 0, []) := kg_4_0 (i := 1) rfl
theorem kc_4_2 : xe_code 4 2 = some (.iconst 1, []) := kg_4_0 (i := 2) rfl
theorem kc_4_3 : xe_code 4 3 = some (.iushr, []) := kg_4_0 (i := 3) rfl
theorem kc_4_4 : xe_code 4 4 = some (.ldc_w 265, [1431655765, 664]) := kg_4_0 (i := 4) rfl
theorem kc_4_7 : xe_code 4 7 = some (.iand, []) := kg_4_0 (i := 5) rfl
theorem kc_4_8 : xe_code 4 8 = some (.isub, []) := kg_4_0 (i := 6) rfl
theorem kc_4_9 : xe_code 4 9 = some (.istore_n 0, []) := kg_4_0 (i := 7) rfl
theorem kc_4_10 : xe_code 4 10 = some (.iload_n 0, []) := kg_4_0 (i := 8) rfl
theorem kc_4_11 : xe_code 4 11 = some (.ldc_w 266, [858993459, 665]) := kg_4_0 (i := 9) rfl
theorem kc_4_14 : xe_code 4 14 = some (.iand, []) := kg_4_0 (i := 10) rfl
theorem kc_4_15 : xe_code 4 15 = some (.iload_n 0, []) := kg_4_0 (i := 11) rfl
theorem kc_4_16 : xe_code 4 16 = some (.iconst 2, []) := kg_4_0 (i := 12) rfl
theorem kc_4_17 : xe_code 4 17 = some (.iushr, []) := kg_4_0 (i := 13) rfl
theorem kc_4_18 : xe_code 4 18 = some (.ldc_w 266, [858993459, 665]) := kg_4_0 (i := 14) rfl
theorem kc_4_21 : xe_code 4 21 = some (.iand, []) := kg_4_0 (i := 15) rfl
theorem kc_4_22 : xe_code 4 22 = some (.iadd, []) := kg_4_0 (i := 16) rfl
theorem kc_4_23 : xe_code 4 23 = some (.istore_n 0, []) := kg_4_0 (i := 17) rfl
theorem kc_4_24 : xe_code 4 24 = some (.iload_n 0, []) := kg_4_0 (i := 18) rfl
theorem kc_4_25 : xe_code 4 25 = some (.iload_n 0, []) := kg_4_0 (i := 19) rfl
theorem kc_4_26 : xe_code 4 26 = some (.iconst 4, []) := kg_4_0 (i := 20) rfl
theorem kc_4_27 : xe_code 4 27 = some (.iushr, []) := kg_4_0 (i := 21) rfl
theorem kc_4_28 : xe_code 4 28 = some (.iadd, []) := kg_4_0 (i := 22) rfl
theorem kc_4_29 : xe_code 4 29 = some (.ldc_w 267, [252645135, 666]) := kg_4_0 (i := 23) rfl
theorem kc_4_32 : xe_code 4 32 = some (.iand, []) := kg_4_0 (i := 24) rfl
theorem kc_4_33 : xe_code 4 33 = some (.istore_n 0, []) := kg_4_0 (i := 25) rfl
theorem kc_4_34 : xe_code 4 34 = some (.iload_n 0, []) := kg_4_0 (i := 26) rfl
theorem kc_4_35 : xe_code 4 35 = some (.iload_n 0, []) := kg_4_0 (i := 27) rfl
theorem kc_4_36 : xe_code 4 36 = some (.bipush 8, []) := kg_4_0 (i := 28) rfl
theorem kc_4_38 : xe_code 4 38 = some (.iushr, []) := kg_4_0 (i := 29) rfl
theorem kc_4_39 : xe_code 4 39 = some (.iadd, []) := kg_4_0 (i := 30) rfl
theorem kc_4_40 : xe_code 4 40 = some (.istore_n 0, []) := kg_4_0 (i := 31) rfl
theorem kc_4_41 : xe_code 4 41 = some (.iload_n 0, []) := kg_4_0 (i := 32) rfl
theorem kc_4_42 : xe_code 4 42 = some (.iload_n 0, []) := kg_4_0 (i := 33) rfl
theorem kc_4_43 : xe_code 4 43 = some (.bipush 16, []) := kg_4_0 (i := 34) rfl
theorem kc_4_45 : xe_code 4 45 = some (.iushr, []) := kg_4_0 (i := 35) rfl
theorem kc_4_46 : xe_code 4 46 = some (.iadd, []) := kg_4_0 (i := 36) rfl
theorem kc_4_47 : xe_code 4 47 = some (.istore_n 0, []) := kg_4_0 (i := 37) rfl
theorem kc_4_48 : xe_code 4 48 = some (.iload_n 0, []) := kg_4_0 (i := 38) rfl
theorem kc_4_49 : xe_code 4 49 = some (.bipush 63, []) := kg_4_0 (i := 39) rfl
theorem kc_4_51 : xe_code 4 51 = some (.iand, []) := kg_4_0 (i := 40) rfl
theorem kc_4_52 : xe_code 4 52 = some (.ireturn, []) := kg_4_0 (i := 41) rfl
theorem kc_5_0 : xe_code 5 0 = some (.lload_n 0, []) := kg_5_0 (i := 0) rfl
theorem kc_5_1 : xe_code 5 1 = some (.lload_n 0, []) := kg_5_0 (i := 1) rfl
theorem kc_5_2 : xe_code 5 2 = some (.iconst 1, []) := kg_5_0 (i := 2) rfl
theorem kc_5_3 : xe_code 5 3 = some (.lushr, []) := kg_5_0 (i := 3) rfl
theorem kc_5_4 : xe_code 5 4 = some (.ldc2_w 314, [6148914691236517205, 699]) := kg_5_0 (i := 4) rfl
theorem kc_5_7 : xe_code 5 7 = some (.land, []) := kg_5_0 (i := 5) rfl
theorem kc_5_8 : xe_code 5 8 = some (.lsub, []) := kg_5_0 (i := 6) rfl
theorem kc_5_9 : xe_code 5 9 = some (.lstore_n 0, []) := kg_5_0 (i := 7) rfl
theorem kc_5_10 : xe_code 5 10 = some (.lload_n 0, []) := kg_5_0 (i := 8) rfl
theorem kc_5_11 : xe_code 5 11 = some (.ldc2_w 316, [3689348814741910323, 700]) := kg_5_0 (i := 9) rfl
theorem kc_5_14 : xe_code 5 14 = some (.land, []) := kg_5_0 (i := 10) rfl
theorem kc_5_15 : xe_code 5 15 = some (.lload_n 0, []) := kg_5_0 (i := 11) rfl
theorem kc_5_16 : xe_code 5 16 = some (.iconst 2, []) := kg_5_0 (i := 12) rfl
theorem kc_5_17 : xe_code 5 17 = some (.lushr, []) := kg_5_0 (i := 13) rfl
theorem kc_5_18 : xe_code 5 18 = some (.ldc2_w 316, [3689348814741910323, 700]) := kg_5_0 (i := 14) rfl
theorem kc_5_21 : xe_code 5 21 = some (.land, []) := kg_5_0 (i := 15) rfl
theorem kc_5_22 : xe_code 5 22 = some (.ladd, []) := kg_5_0 (i := 16) rfl
theorem kc_5_23 : xe_code 5 23 = some (.lstore_n 0, []) := kg_5_0 (i := 17) rfl
theorem kc_5_24 : xe_code 5 24 = some (.lload_n 0, []) := kg_5_0 (i := 18) rfl
theorem kc_5_25 : xe_code 5 25 = some (.lload_n 0, []) := kg_5_0 (i := 19) rfl
theorem kc_5_26 : xe_code 5 26 = some (.iconst 4, []) := kg_5_0 (i := 20) rfl
theorem kc_5_27 : xe_code 5 27 = some (.lushr, []) := kg_5_0 (i := 21) rfl
theorem kc_5_28 : xe_code 5 28 = some (.ladd, []) := kg_5_0 (i := 22) rfl
theorem kc_5_29 : xe_code 5 29 = some (.ldc2_w 318, [1085102592571150095, 701]) := kg_5_0 (i := 23) rfl
theorem kc_5_32 : xe_code 5 32 = some (.land, []) := kg_5_0 (i := 24) rfl
theorem kc_5_33 : xe_code 5 33 = some (.lstore_n 0, []) := kg_5_0 (i := 25) rfl
theorem kc_5_34 : xe_code 5 34 = some (.lload_n 0, []) := kg_5_0 (i := 26) rfl
theorem kc_5_35 : xe_code 5 35 = some (.lload_n 0, []) := kg_5_0 (i := 27) rfl
theorem kc_5_36 : xe_code 5 36 = some (.bipush 8, []) := kg_5_0 (i := 28) rfl
theorem kc_5_38 : xe_code 5 38 = some (.lushr, []) := kg_5_0 (i := 29) rfl
theorem kc_5_39 : xe_code 5 39 = some (.ladd, []) := kg_5_0 (i := 30) rfl
theorem kc_5_40 : xe_code 5 40 = some (.lstore_n 0, []) := kg_5_0 (i := 31) rfl
theorem kc_5_41 : xe_code 5 41 = some (.lload_n 0, []) := kg_5_0 (i := 32) rfl
theorem kc_5_42 : xe_code 5 42 = some (.lload_n 0, []) := kg_5_0 (i := 33) rfl
theorem kc_5_43 : xe_code 5 43 = some (.bipush 16, []) := kg_5_0 (i := 34) rfl
theorem kc_5_45 : xe_code 5 45 = some (.lushr, []) := kg_5_0 (i := 35) rfl
theorem kc_5_46 : xe_code 5 46 = some (.ladd, []) := kg_5_0 (i := 36) rfl
theorem kc_5_47 : xe_code 5 47 = some (.lstore_n 0, []) := kg_5_0 (i := 37) rfl
theorem kc_5_48 : xe_code 5 48 = some (.lload_n 0, []) := kg_5_0 (i := 38) rfl
theorem kc_5_49 : xe_code 5 49 = some (.lload_n 0, []) := kg_5_0 (i := 39) rfl
theorem kc_5_50 : xe_code 5 50 = some (.bipush 32, []) := kg_5_0 (i := 40) rfl
theorem kc_5_52 : xe_code 5 52 = some (.lushr, []) := kg_5_0 (i := 41) rfl
theorem kc_5_53 : xe_code 5 53 = some (.ladd, []) := kg_5_0 (i := 42) rfl
theorem kc_5_54 : xe_code 5 54 = some (.lstore_n 0, []) := kg_5_0 (i := 43) rfl
theorem kc_5_55 : xe_code 5 55 = some (.lload_n 0, []) := kg_5_0 (i := 44) rfl
theorem kc_5_56 : xe_code 5 56 = some (.l2i, []) := kg_5_0 (i := 45) rfl
theorem kc_5_57 : xe_code 5 57 = some (.bipush 127, []) := kg_5_0 (i := 46) rfl
theorem kc_5_59 : xe_code 5 59 = some (.iand, []) := kg_5_0 (i := 47) rfl
theorem kc_5_60 : xe_code 5 60 = some (.ireturn, []) := kg_5_1 (i := 0) rfl
theorem kc_6_0 : xe_code 6 0 = some (.iload_n 0, []) := kg_6_0 (i := 0) rfl
theorem kc_6_1 : xe_code 6 1 = some (.iload_n 1, []) := kg_6_0 (i := 1) rfl
theorem kc_6_2 : xe_code 6 2 = some (.if_icmp .lt 7, [9]) := kg_6_0 (i := 2) rfl
theorem kc_6_5 : xe_code 6 5 = some (.iload_n 0, []) := kg_6_0 (i := 3) rfl
theorem kc_6_6 : xe_code 6 6 = some (.goto 4, [10]) := kg_6_0 (i := 4) rfl
theorem kc_6_9 : xe_code 6 9 = some (.iload_n 1, []) := kg_6_0 (i := 5) rfl
theorem kc_6_10 : xe_code 6 10 = some (.ireturn, []) := kg_6_0 (i := 6) rfl
theorem kc_7_0 : xe_code 7 0 = some (.iload_n 0, []) := kg_7_0 (i := 0) rfl
theorem kc_7_1 : xe_code 7 1 = some (.iload_n 1, []) := kg_7_0 (i := 1) rfl
theorem kc_7_2 : xe_code 7 2 = some (.if_icmp .gt 7, [9]) := kg_7_0 (i := 2) rfl
theorem kc_7_5 : xe_code 7 5 = some (.iload_n 0, []) := kg_7_0 (i := 3) rfl
theorem kc_7_6 : xe_code 7 6 = some (.goto 4, [10]) := kg_7_0 (i := 4) rfl
theorem kc_7_9 : xe_code 7 9 = some (.iload_n 1, []) := kg_7_0 (i := 5) rfl
theorem kc_7_10 : xe_code 7 10 = some (.ireturn, []) := kg_7_0 (i := 6) rfl
theorem kc_8_0 : xe_code 8 0 = some (.aload_n 0, []) := kg_8_0 (i := 0) rfl
theorem kc_8_1 : xe_code 8 1 = some (.invokespecial 1, [0, 0, 946, 0]) := kg_8_0 (i := 1) rfl
theorem kc_8_4 : xe_code 8 4 = some (.aload_n 0, []) := kg_8_0 (i := 2) rfl
theorem kc_8_5 : xe_code 8 5 = some (.bipush 6, []) := kg_8_0 (i := 3) rfl
theorem kc_8_7 : xe_code 8 7 = some (.newarray .int, [0, 109]) := kg_8_0 (i := 4) rfl
theorem kc_8_9 : xe_code 8 9 = some (.dup, []) := kg_8_0 (i := 5) rfl
theorem kc_8_10 : xe_code 8 10 = some (.iconst 0, []) := kg_8_0 (i := 6) rfl
theorem kc_8_11 : xe_code 8 11 = some (.bipush 40, []) := kg_8_0 (i := 7) rfl
theorem kc_8_13 : xe_code 8 13 = some (.iastore, []) := kg_8_0 (i := 8) rfl
theorem kc_8_14 : xe_code 8 14 = some (.dup, []) := kg_8_0 (i := 9) rfl
theorem kc_8_15 : xe_code 8 15 = some (.iconst 1, []) := kg_8_0 (i := 10) rfl
theorem kc_8_16 : xe_code 8 16 = some (.bipush 40, []) := kg_8_0 (i := 11) rfl
theorem kc_8_18 : xe_code 8 18 = some (.iastore, []) := kg_8_0 (i := 12) rfl
theorem kc_8_19 : xe_code 8 19 = some (.dup, []) := kg_8_0 (i := 13) rfl
theorem kc_8_20 : xe_code 8 20 = some (.iconst 2, []) := kg_8_0 (i := 14) rfl
theorem kc_8_21 : xe_code 8 21 = some (.bipush 40, []) := kg_8_0 (i := 15) rfl
theorem kc_8_23 : xe_code 8 23 = some (.iastore, []) := kg_8_0 (i := 16) rfl
theorem kc_8_24 : xe_code 8 24 = some (.dup, []) := kg_8_0 (i := 17) rfl
theorem kc_8_25 : xe_code 8 25 = some (.iconst 3, []) := kg_8_0 (i := 18) rfl
theorem kc_8_26 : xe_code 8 26 = some (.bipush 40, []) := kg_8_0 (i := 19) rfl
theorem kc_8_28 : xe_code 8 28 = some (.iastore, []) := kg_8_0 (i := 20) rfl
theorem kc_8_29 : xe_code 8 29 = some (.dup, []) := kg_8_0 (i := 21) rfl
theorem kc_8_30 : xe_code 8 30 = some (.iconst 4, []) := kg_8_0 (i := 22) rfl
theorem kc_8_31 : xe_code 8 31 = some (.bipush 40, []) := kg_8_0 (i := 23) rfl
theorem kc_8_33 : xe_code 8 33 = some (.iastore, []) := kg_8_0 (i := 24) rfl
theorem kc_8_34 : xe_code 8 34 = some (.dup, []) := kg_8_0 (i := 25) rfl
theorem kc_8_35 : xe_code 8 35 = some (.iconst 5, []) := kg_8_0 (i := 26) rfl
theorem kc_8_36 : xe_code 8 36 = some (.bipush 40, []) := kg_8_0 (i := 27) rfl
theorem kc_8_38 : xe_code 8 38 = some (.iastore, []) := kg_8_0 (i := 28) rfl
theorem kc_8_39 : xe_code 8 39 = some (.putfield 7, [12, 2, 949]) := kg_8_0 (i := 29) rfl
theorem kc_8_42 : xe_code 8 42 = some (.aload_n 0, []) := kg_8_0 (i := 30) rfl
theorem kc_8_43 : xe_code 8 43 = some (.bipush 6, []) := kg_8_0 (i := 31) rfl
theorem kc_8_45 : xe_code 8 45 = some (.newarray .int, [0, 109]) := kg_8_0 (i := 32) rfl
theorem kc_8_47 : xe_code 8 47 = some (.dup, []) := kg_8_0 (i := 33) rfl
theorem kc_8_48 : xe_code 8 48 = some (.iconst 0, []) := kg_8_0 (i := 34) rfl
theorem kc_8_49 : xe_code 8 49 = some (.bipush 18, []) := kg_8_0 (i := 35) rfl
theorem kc_8_51 : xe_code 8 51 = some (.iastore, []) := kg_8_0 (i := 36) rfl
theorem kc_8_52 : xe_code 8 52 = some (.dup, []) := kg_8_0 (i := 37) rfl
theorem kc_8_53 : xe_code 8 53 = some (.iconst 1, []) := kg_8_0 (i := 38) rfl
theorem kc_8_54 : xe_code 8 54 = some (.bipush 18, []) := kg_8_0 (i := 39) rfl
theorem kc_8_56 : xe_code 8 56 = some (.iastore, []) := kg_8_0 (i := 40) rfl
theorem kc_8_57 : xe_code 8 57 = some (.dup, []) := kg_8_0 (i := 41) rfl
theorem kc_8_58 : xe_code 8 58 = some (.iconst 2, []) := kg_8_0 (i := 42) rfl
theorem kc_8_59 : xe_code 8 59 = some (.bipush 18, []) := kg_8_0 (i := 43) rfl
theorem kc_8_61 : xe_code 8 61 = some (.iastore, []) := kg_8_0 (i := 44) rfl
theorem kc_8_62 : xe_code 8 62 = some (.dup, []) := kg_8_0 (i := 45) rfl
theorem kc_8_63 : xe_code 8 63 = some (.iconst 3, []) := kg_8_0 (i := 46) rfl
theorem kc_8_64 : xe_code 8 64 = some (.bipush 18, []) := kg_8_0 (i := 47) rfl
theorem kc_8_66 : xe_code 8 66 = some (.iastore, []) := kg_8_1 (i := 0) rfl
theorem kc_8_67 : xe_code 8 67 = some (.dup, []) := kg_8_1 (i := 1) rfl
theorem kc_8_68 : xe_code 8 68 = some (.iconst 4, []) := kg_8_1 (i := 2) rfl
theorem kc_8_69 : xe_code 8 69 = some (.bipush 18, []) := kg_8_1 (i := 3) rfl
theorem kc_8_71 : xe_code 8 71 = some (.iastore, []) := kg_8_1 (i := 4) rfl
theorem kc_8_72 : xe_code 8 72 = some (.dup, []) := kg_8_1 (i := 5) rfl
theorem kc_8_73 : xe_code 8 73 = some (.iconst 5, []) := kg_8_1 (i := 6) rfl
theorem kc_8_74 : xe_code 8 74 = some (.bipush 18, []) := kg_8_1 (i := 7) rfl
theorem kc_8_76 : xe_code 8 76 = some (.iastore, []) := kg_8_1 (i := 8) rfl
theorem kc_8_77 : xe_code 8 77 = some (.putfield 13, [12, 3, 950]) := kg_8_1 (i := 9) rfl
theorem kc_8_80 : xe_code 8 80 = some (.aload_n 0, []) := kg_8_1 (i := 10) rfl
theorem kc_8_81 : xe_code 8 81 = some (.bipush 6, []) := kg_8_1 (i := 11) rfl
theorem kc_8_83 : xe_code 8 83 = some (.newarray .int, [0, 109]) := kg_8_1 (i := 12) rfl
theorem kc_8_85 : xe_code 8 85 = some (.dup, []) := kg_8_1 (i := 13) rfl
theorem kc_8_86 : xe_code 8 86 = some (.iconst 0, []) := kg_8_1 (i := 14) rfl
theorem kc_8_87 : xe_code 8 87 = some (.bipush 10, []) := kg_8_1 (i := 15) rfl
theorem kc_8_89 : xe_code 8 89 = some (.iastore, []) := kg_8_1 (i := 16) rfl
theorem kc_8_90 : xe_code 8 90 = some (.dup, []) := kg_8_1 (i := 17) rfl
theorem kc_8_91 : xe_code 8 91 = some (.iconst 1, []) := kg_8_1 (i := 18) rfl
theorem kc_8_92 : xe_code 8 92 = some (.bipush 10, []) := kg_8_1 (i := 19) rfl
theorem kc_8_94 : xe_code 8 94 = some (.iastore, []) := kg_8_1 (i := 20) rfl
theorem kc_8_95 : xe_code 8 95 = some (.dup, []) := kg_8_1 (i := 21) rfl
theorem kc_8_96 : xe_code 8 96 = some (.iconst 2, []) := kg_8_1 (i := 22) rfl
theorem kc_8_97 : xe_code 8 97 = some (.bipush 10, []) := kg_8_1 (i := 23) rfl
theorem kc_8_99 : xe_code 8 99 = some (.iastore, []) := kg_8_1 (i := 24) rfl
theorem kc_8_100 : xe_code 8 100 = some (.dup, []) := kg_8_1 (i := 25) rfl
theorem kc_8_101 : xe_code 8 101 = some (.iconst 3, []) := kg_8_1 (i := 26) rfl
theorem kc_8_102 : xe_code 8 102 = some (.bipush 10, []) := kg_8_1 (i := 27) rfl
theorem kc_8_104 : xe_code 8 104 = some (.iastore, []) := kg_8_1 (i := 28) rfl
theorem kc_8_105 : xe_code 8 105 = some (.dup, []) := kg_8_1 (i := 29) rfl
theorem kc_8_106 : xe_code 8 106 = some (.iconst 4, []) := kg_8_1 (i := 30) rfl
theorem kc_8_107 : xe_code 8 107 = some (.bipush 10, []) := kg_8_1 (i := 31) rfl
theorem kc_8_109 : xe_code 8 109 = some (.iastore, []) := kg_8_1 (i := 32) rfl
theorem kc_8_110 : xe_code 8 110 = some (.dup, []) := kg_8_1 (i := 33) rfl
theorem kc_8_111 : xe_code 8 111 = some (.iconst 5, []) := kg_8_1 (i := 34) rfl
theorem kc_8_112 : xe_code 8 112 = some (.bipush 10, []) := kg_8_1 (i := 35) rfl
theorem kc_8_114 : xe_code 8 114 = some (.iastore, []) := kg_8_1 (i := 36) rfl
theorem kc_8_115 : xe_code 8 115 = some (.putfield 16, [12, 4, 951]) := kg_8_1 (i := 37) rfl
theorem kc_8_118 : xe_code 8 118 = some (.aload_n 0, []) := kg_8_1 (i := 38) rfl
theorem kc_8_119 : xe_code 8 119 = some (.bipush 6, []) := kg_8_1 (i := 39) rfl
theorem kc_8_121 : xe_code 8 121 = some (.newarray .int, [0, 109]) := kg_8_1 (i := 40) rfl
theorem kc_8_123 : xe_code 8 123 = some (.putfield 19, [12, 5, 952]) := kg_8_1 (i := 41) rfl
theorem kc_8_126 : xe_code 8 126 = some (.aload_n 0, []) := kg_8_1 (i := 42) rfl
theorem kc_8_127 : xe_code 8 127 = some (.bipush 6, []) := kg_8_1 (i := 43) rfl
theorem kc_8_129 : xe_code 8 129 = some (.newarray .int, [0, 109]) := kg_8_1 (i := 44) rfl
theorem kc_8_131 : xe_code 8 131 = some (.putfield 22, [12, 6, 953]) := kg_8_1 (i := 45) rfl
theorem kc_8_134 : xe_code 8 134 = some (.aload_n 0, []) := kg_8_1 (i := 46) rfl
theorem kc_8_135 : xe_code 8 135 = some (.bipush 6, []) := kg_8_1 (i := 47) rfl
theorem kc_8_137 : xe_code 8 137 = some (.newarray .int, [0, 109]) := kg_8_2 (i := 0) rfl
theorem kc_8_139 : xe_code 8 139 = some (.putfield 25, [12, 7, 954]) := kg_8_2 (i := 1) rfl
theorem kc_8_142 : xe_code 8 142 = some (.aload_n 0, []) := kg_8_2 (i := 2) rfl
theorem kc_8_143 : xe_code 8 143 = some (.sipush 144, []) := kg_8_2 (i := 3) rfl
theorem kc_8_146 : xe_code 8 146 = some (.newarray .int, [0, 109]) := kg_8_2 (i := 4) rfl
theorem kc_8_148 : xe_code 8 148 = some (.putfield 28, [12, 8, 955]) := kg_8_2 (i := 5) rfl
theorem kc_8_151 : xe_code 8 151 = some (.aload_n 0, []) := kg_8_2 (i := 6) rfl
theorem kc_8_152 : xe_code 8 152 = some (.sipush 600, []) := kg_8_2 (i := 7) rfl
theorem kc_8_155 : xe_code 8 155 = some (.newarray .int, [0, 109]) := kg_8_2 (i := 8) rfl
theorem kc_8_157 : xe_code 8 157 = some (.putfield 31, [12, 9, 956]) := kg_8_2 (i := 9) rfl
theorem kc_8_160 : xe_code 8 160 = some (.aload_n 0, []) := kg_8_2 (i := 10) rfl
theorem kc_8_161 : xe_code 8 161 = some (.sipush 600, []) := kg_8_2 (i := 11) rfl
theorem kc_8_164 : xe_code 8 164 = some (.newarray .int, [0, 109]) := kg_8_2 (i := 12) rfl
theorem kc_8_166 : xe_code 8 166 = some (.putfield 34, [12, 10, 957]) := kg_8_2 (i := 13) rfl
theorem kc_8_169 : xe_code 8 169 = some (.aload_n 0, []) := kg_8_2 (i := 14) rfl
theorem kc_8_170 : xe_code 8 170 = some (.bipush 12, []) := kg_8_2 (i := 15) rfl
theorem kc_8_172 : xe_code 8 172 = some (.newarray .int, [0, 109]) := kg_8_2 (i := 16) rfl
theorem kc_8_174 : xe_code 8 174 = some (.putfield 37, [12, 11, 958]) := kg_8_2 (i := 17) rfl
theorem kc_8_177 : xe_code 8 177 = some (.aload_n 0, []) := kg_8_2 (i := 18) rfl
theorem kc_8_178 : xe_code 8 178 = some (.bipush 12, []) := kg_8_2 (i := 19) rfl
theorem kc_8_180 : xe_code 8 180 = some (.newarray .int, [0, 109]) := kg_8_2 (i := 20) rfl
theorem kc_8_182 : xe_code 8 182 = some (.putfield 40, [12, 12, 959]) := kg_8_2 (i := 21) rfl
theorem kc_8_185 : xe_code 8 185 = some (.aload_n 0, []) := kg_8_2 (i := 22) rfl
theorem kc_8_186 : xe_code 8 186 = some (.bipush 12, []) := kg_8_2 (i := 23) rfl
theorem kc_8_188 : xe_code 8 188 = some (.newarray .boolean, [2, 1140]) := kg_8_2 (i := 24) rfl
theorem kc_8_190 : xe_code 8 190 = some (.putfield 43, [12, 13, 960]) := kg_8_2 (i := 25) rfl
theorem kc_8_193 : xe_code 8 193 = some (.aload_n 0, []) := kg_8_2 (i := 26) rfl
theorem kc_8_194 : xe_code 8 194 = some (.bipush 12, []) := kg_8_2 (i := 27) rfl
theorem kc_8_196 : xe_code 8 196 = some (.newarray .int, [0, 109]) := kg_8_2 (i := 28) rfl
theorem kc_8_198 : xe_code 8 198 = some (.putfield 47, [12, 14, 961]) := kg_8_2 (i := 29) rfl
theorem kc_8_201 : xe_code 8 201 = some (.aload_n 0, []) := kg_8_2 (i := 30) rfl
theorem kc_8_202 : xe_code 8 202 = some (.bipush 12, []) := kg_8_2 (i := 31) rfl
theorem kc_8_204 : xe_code 8 204 = some (.newarray .int, [0, 109]) := kg_8_2 (i := 32) rfl
theorem kc_8_206 : xe_code 8 206 = some (.putfield 50, [12, 15, 962]) := kg_8_2 (i := 33) rfl
theorem kc_8_209 : xe_code 8 209 = some (.aload_n 0, []) := kg_8_2 (i := 34) rfl
theorem kc_8_210 : xe_code 8 210 = some (.iconst 4, []) := kg_8_2 (i := 35) rfl
theorem kc_8_211 : xe_code 8 211 = some (.putfield 53, [12, 16, 963]) := kg_8_2 (i := 36) rfl
theorem kc_8_214 : xe_code 8 214 = some (.aload_n 0, []) := kg_8_2 (i := 37) rfl
theorem kc_8_215 : xe_code 8 215 = some (.sipush 7200, []) := kg_8_2 (i := 38) rfl
theorem kc_8_218 : xe_code 8 218 = some (.newarray .int, [0, 109]) := kg_8_2 (i := 39) rfl
theorem kc_8_220 : xe_code 8 220 = some (.putfield 57, [12, 17, 964]) := kg_8_2 (i := 40) rfl
theorem kc_8_223 : xe_code 8 223 = some (.aload_n 0, []) := kg_8_2 (i := 41) rfl
theorem kc_8_224 : xe_code 8 224 = some (.bipush 60, []) := kg_8_2 (i := 42) rfl
theorem kc_8_226 : xe_code 8 226 = some (.newarray .int, [0, 109]) := kg_8_2 (i := 43) rfl
theorem kc_8_228 : xe_code 8 228 = some (.putfield 60, [12, 19, 966]) := kg_8_2 (i := 44) rfl
theorem kc_8_231 : xe_code 8 231 = some (.aload_n 0, []) := kg_8_2 (i := 45) rfl
theorem kc_8_232 : xe_code 8 232 = some (.bipush 60, []) := kg_8_2 (i := 46) rfl
theorem kc_8_234 : xe_code 8 234 = some (.newarray .int, [0, 109]) := kg_8_2 (i := 47) rfl
theorem kc_8_236 : xe_code 8 236 = some (.putfield 63, [12, 20, 967]) := kg_8_3 (i := 0) rfl
theorem kc_8_239 : xe_code 8 239 = some (.aload_n 0, []) := kg_8_3 (i := 1) rfl
theorem kc_8_240 : xe_code 8 240 = some (.bipush 60, []) := kg_8_3 (i := 2) rfl
theorem kc_8_242 : xe_code 8 242 = some (.newarray .int, [0, 109]) := kg_8_3 (i := 3) rfl
theorem kc_8_244 : xe_code 8 244 = some (.putfield 66, [12, 21, 968]) := kg_8_3 (i := 4) rfl
theorem kc_8_247 : xe_code 8 247 = some (.aload_n 0, []) := kg_8_3 (i := 5) rfl
theorem kc_8_248 : xe_code 8 248 = some (.bipush 60, []) := kg_8_3 (i := 6) rfl
theorem kc_8_250 : xe_code 8 250 = some (.newarray .int, [0, 109]) := kg_8_3 (i := 7) rfl
theorem kc_8_252 : xe_code 8 252 = some (.putfield 69, [12, 22, 969]) := kg_8_3 (i := 8) rfl
theorem kc_8_255 : xe_code 8 255 = some (.aload_n 0, []) := kg_8_3 (i := 9) rfl
theorem kc_8_256 : xe_code 8 256 = some (.bipush 10, []) := kg_8_3 (i := 10) rfl
theorem kc_8_258 : xe_code 8 258 = some (.newarray .int, [0, 109]) := kg_8_3 (i := 11) rfl
theorem kc_8_260 : xe_code 8 260 = some (.putfield 72, [12, 24, 971]) := kg_8_3 (i := 12) rfl
theorem kc_8_263 : xe_code 8 263 = some (.aload_n 0, []) := kg_8_3 (i := 13) rfl
theorem kc_8_264 : xe_code 8 264 = some (.bipush 10, []) := kg_8_3 (i := 14) rfl
theorem kc_8_266 : xe_code 8 266 = some (.newarray .int, [0, 109]) := kg_8_3 (i := 15) rfl
theorem kc_8_268 : xe_code 8 268 = some (.putfield 75, [12, 25, 972]) := kg_8_3 (i := 16) rfl
theorem kc_8_271 : xe_code 8 271 = some (.aload_n 0, []) := kg_8_3 (i := 17) rfl
theorem kc_8_272 : xe_code 8 272 = some (.bipush 10, []) := kg_8_3 (i := 18) rfl
theorem kc_8_274 : xe_code 8 274 = some (.newarray .int, [0, 109]) := kg_8_3 (i := 19) rfl
theorem kc_8_276 : xe_code 8 276 = some (.putfield 78, [12, 26, 973]) := kg_8_3 (i := 20) rfl
theorem kc_8_279 : xe_code 8 279 = some (.aload_n 0, []) := kg_8_3 (i := 21) rfl
theorem kc_8_280 : xe_code 8 280 = some (.bipush 10, []) := kg_8_3 (i := 22) rfl
theorem kc_8_282 : xe_code 8 282 = some (.newarray .int, [0, 109]) := kg_8_3 (i := 23) rfl
theorem kc_8_284 : xe_code 8 284 = some (.putfield 81, [12, 27, 974]) := kg_8_3 (i := 24) rfl
theorem kc_8_287 : xe_code 8 287 = some (.aload_n 0, []) := kg_8_3 (i := 25) rfl
theorem kc_8_288 : xe_code 8 288 = some (.bipush 10, []) := kg_8_3 (i := 26) rfl
theorem kc_8_290 : xe_code 8 290 = some (.newarray .boolean, [2, 1140]) := kg_8_3 (i := 27) rfl
theorem kc_8_292 : xe_code 8 292 = some (.putfield 84, [12, 28, 975]) := kg_8_3 (i := 28) rfl
theorem kc_8_295 : xe_code 8 295 = some (.aload_n 0, []) := kg_8_3 (i := 29) rfl
theorem kc_8_296 : xe_code 8 296 = some (.bipush 7, []) := kg_8_3 (i := 30) rfl
theorem kc_8_298 : xe_code 8 298 = some (.newarray .int, [0, 109]) := kg_8_3 (i := 31) rfl
theorem kc_8_300 : xe_code 8 300 = some (.putfield 87, [12, 29, 976]) := kg_8_3 (i := 32) rfl
theorem kc_8_303 : xe_code 8 303 = some (.aload_n 0, []) := kg_8_3 (i := 33) rfl
theorem kc_8_304 : xe_code 8 304 = some (.bipush 6, []) := kg_8_3 (i := 34) rfl
theorem kc_8_306 : xe_code 8 306 = some (.newarray .int, [0, 109]) := kg_8_3 (i := 35) rfl
theorem kc_8_308 : xe_code 8 308 = some (.putfield 90, [12, 30, 977]) := kg_8_3 (i := 36) rfl
theorem kc_8_311 : xe_code 8 311 = some (.aload_n 0, []) := kg_8_3 (i := 37) rfl
theorem kc_8_312 : xe_code 8 312 = some (.bipush 12, []) := kg_8_3 (i := 38) rfl
theorem kc_8_314 : xe_code 8 314 = some (.newarray .int, [0, 109]) := kg_8_3 (i := 39) rfl
theorem kc_8_316 : xe_code 8 316 = some (.putfield 93, [12, 31, 978]) := kg_8_3 (i := 40) rfl
theorem kc_8_319 : xe_code 8 319 = some (.aload_n 0, []) := kg_8_3 (i := 41) rfl
theorem kc_8_320 : xe_code 8 320 = some (.bipush 20, []) := kg_8_3 (i := 42) rfl
theorem kc_8_322 : xe_code 8 322 = some (.newarray .int, [0, 109]) := kg_8_3 (i := 43) rfl
theorem kc_8_324 : xe_code 8 324 = some (.putfield 96, [12, 35, 982]) := kg_8_3 (i := 44) rfl
theorem kc_8_327 : xe_code 8 327 = some (.aload_n 0, []) := kg_8_3 (i := 45) rfl
theorem kc_8_328 : xe_code 8 328 = some (.bipush 20, []) := kg_8_3 (i := 46) rfl
theorem kc_8_330 : xe_code 8 330 = some (.newarray .int, [0, 109]) := kg_8_3 (i := 47) rfl
theorem kc_8_332 : xe_code 8 332 = some (.putfield 99, [12, 36, 983]) := kg_8_4 (i := 0) rfl
theorem kc_8_335 : xe_code 8 335 = some (.aload_n 0, []) := kg_8_4 (i := 1) rfl
theorem kc_8_336 : xe_code 8 336 = some (.bipush 20, []) := kg_8_4 (i := 2) rfl
theorem kc_8_338 : xe_code 8 338 = some (.newarray .int, [0, 109]) := kg_8_4 (i := 3) rfl
theorem kc_8_340 : xe_code 8 340 = some (.putfield 102, [12, 37, 984]) := kg_8_4 (i := 4) rfl
theorem kc_8_343 : xe_code 8 343 = some (.aload_n 0, []) := kg_8_4 (i := 5) rfl
theorem kc_8_344 : xe_code 8 344 = some (.bipush 20, []) := kg_8_4 (i := 6) rfl
theorem kc_8_346 : xe_code 8 346 = some (.newarray .int, [0, 109]) := kg_8_4 (i := 7) rfl
theorem kc_8_348 : xe_code 8 348 = some (.putfield 105, [12, 38, 985]) := kg_8_4 (i := 8) rfl
theorem kc_8_351 : xe_code 8 351 = some (.aload_n 0, []) := kg_8_4 (i := 9) rfl
theorem kc_8_352 : xe_code 8 352 = some (.bipush 20, []) := kg_8_4 (i := 10) rfl
theorem kc_8_354 : xe_code 8 354 = some (.newarray .int, [0, 109]) := kg_8_4 (i := 11) rfl
theorem kc_8_356 : xe_code 8 356 = some (.putfield 108, [12, 39, 986]) := kg_8_4 (i := 12) rfl
theorem kc_8_359 : xe_code 8 359 = some (.aload_n 0, []) := kg_8_4 (i := 13) rfl
theorem kc_8_360 : xe_code 8 360 = some (.bipush 20, []) := kg_8_4 (i := 14) rfl
theorem kc_8_362 : xe_code 8 362 = some (.newarray .int, [0, 109]) := kg_8_4 (i := 15) rfl
theorem kc_8_364 : xe_code 8 364 = some (.putfield 111, [12, 40, 987]) := kg_8_4 (i := 16) rfl
theorem kc_8_367 : xe_code 8 367 = some (.aload_n 0, []) := kg_8_4 (i := 17) rfl
theorem kc_8_368 : xe_code 8 368 = some (.bipush 64, []) := kg_8_4 (i := 18) rfl
theorem kc_8_370 : xe_code 8 370 = some (.newarray .long, [1, 261]) := kg_8_4 (i := 19) rfl
theorem kc_8_372 : xe_code 8 372 = some (.putfield 114, [12, 42, 989]) := kg_8_4 (i := 20) rfl
theorem kc_8_375 : xe_code 8 375 = some (.aload_n 0, []) := kg_8_4 (i := 21) rfl
theorem kc_8_376 : xe_code 8 376 = some (.sipush 600, []) := kg_8_4 (i := 22) rfl
theorem kc_8_379 : xe_code 8 379 = some (.newarray .int, [0, 109]) := kg_8_4 (i := 23) rfl
theorem kc_8_381 : xe_code 8 381 = some (.putfield 118, [12, 43, 990]) := kg_8_4 (i := 24) rfl
theorem kc_8_384 : xe_code 8 384 = some (.aload_n 0, []) := kg_8_4 (i := 25) rfl
theorem kc_8_385 : xe_code 8 385 = some (.sipush 600, []) := kg_8_4 (i := 26) rfl
theorem kc_8_388 : xe_code 8 388 = some (.newarray .int, [0, 109]) := kg_8_4 (i := 27) rfl
theorem kc_8_390 : xe_code 8 390 = some (.putfield 121, [12, 44, 991]) := kg_8_4 (i := 28) rfl
theorem kc_8_393 : xe_code 8 393 = some (.aload_n 0, []) := kg_8_4 (i := 29) rfl
theorem kc_8_394 : xe_code 8 394 = some (.bipush 8, []) := kg_8_4 (i := 30) rfl
theorem kc_8_396 : xe_code 8 396 = some (.newarray .int, [0, 109]) := kg_8_4 (i := 31) rfl
theorem kc_8_398 : xe_code 8 398 = some (.putfield 124, [12, 46, 993]) := kg_8_4 (i := 32) rfl
theorem kc_8_401 : xe_code 8 401 = some (.aload_n 0, []) := kg_8_4 (i := 33) rfl
theorem kc_8_402 : xe_code 8 402 = some (.bipush 8, []) := kg_8_4 (i := 34) rfl
theorem kc_8_404 : xe_code 8 404 = some (.newarray .int, [0, 109]) := kg_8_4 (i := 35) rfl
theorem kc_8_406 : xe_code 8 406 = some (.putfield 127, [12, 47, 994]) := kg_8_4 (i := 36) rfl
theorem kc_8_409 : xe_code 8 409 = some (.aload_n 0, []) := kg_8_4 (i := 37) rfl
theorem kc_8_410 : xe_code 8 410 = some (.bipush 8, []) := kg_8_4 (i := 38) rfl
theorem kc_8_412 : xe_code 8 412 = some (.newarray .int, [0, 109]) := kg_8_4 (i := 39) rfl
theorem kc_8_414 : xe_code 8 414 = some (.putfield 130, [12, 48, 995]) := kg_8_4 (i := 40) rfl
theorem kc_8_417 : xe_code 8 417 = some (.aload_n 0, []) := kg_8_4 (i := 41) rfl
theorem kc_8_418 : xe_code 8 418 = some (.sipush 6561, []) := kg_8_4 (i := 42) rfl
theorem kc_8_421 : xe_code 8 421 = some (.newarray .int, [0, 109]) := kg_8_4 (i := 43) rfl
theorem kc_8_423 : xe_code 8 423 = some (.putfield 133, [12, 49, 996]) := kg_8_4 (i := 44) rfl
theorem kc_8_426 : xe_code 8 426 = some (.aload_n 0, []) := kg_8_4 (i := 45) rfl
theorem kc_8_427 : xe_code 8 427 = some (.bipush 24, []) := kg_8_4 (i := 46) rfl
theorem kc_8_429 : xe_code 8 429 = some (.newarray .int, [0, 109]) := kg_8_4 (i := 47) rfl
theorem kc_8_431 : xe_code 8 431 = some (.putfield 136, [12, 50, 997]) := kg_8_5 (i := 0) rfl
theorem kc_8_434 : xe_code 8 434 = some (.aload_n 0, []) := kg_8_5 (i := 1) rfl
theorem kc_8_435 : xe_code 8 435 = some (.bipush 24, []) := kg_8_5 (i := 2) rfl
theorem kc_8_437 : xe_code 8 437 = some (.newarray .int, [0, 109]) := kg_8_5 (i := 3) rfl
theorem kc_8_439 : xe_code 8 439 = some (.putfield 139, [12, 51, 998]) := kg_8_5 (i := 4) rfl
theorem kc_8_442 : xe_code 8 442 = some (.aload_n 0, []) := kg_8_5 (i := 5) rfl
theorem kc_8_443 : xe_code 8 443 = some (.bipush 24, []) := kg_8_5 (i := 6) rfl
theorem kc_8_445 : xe_code 8 445 = some (.newarray .int, [0, 109]) := kg_8_5 (i := 7) rfl
theorem kc_8_447 : xe_code 8 447 = some (.putfield 142, [12, 52, 999]) := kg_8_5 (i := 8) rfl
theorem kc_8_450 : xe_code 8 450 = some (.aload_n 0, []) := kg_8_5 (i := 9) rfl
theorem kc_8_451 : xe_code 8 451 = some (.bipush 24, []) := kg_8_5 (i := 10) rfl
theorem kc_8_453 : xe_code 8 453 = some (.newarray .int, [0, 109]) := kg_8_5 (i := 11) rfl
theorem kc_8_455 : xe_code 8 455 = some (.putfield 145, [12, 53, 1000]) := kg_8_5 (i := 12) rfl
theorem kc_8_458 : xe_code 8 458 = some (.aload_n 0, []) := kg_8_5 (i := 13) rfl
theorem kc_8_459 : xe_code 8 459 = some (.bipush 24, []) := kg_8_5 (i := 14) rfl
theorem kc_8_461 : xe_code 8 461 = some (.newarray .int, [0, 109]) := kg_8_5 (i := 15) rfl
theorem kc_8_463 : xe_code 8 463 = some (.putfield 148, [12, 55, 1002]) := kg_8_5 (i := 16) rfl
theorem kc_8_466 : xe_code 8 466 = some (.aload_n 0, []) := kg_8_5 (i := 17) rfl
theorem kc_8_467 : xe_code 8 467 = some (.bipush 12, []) := kg_8_5 (i := 18) rfl
theorem kc_8_469 : xe_code 8 469 = some (.newarray .int, [0, 109]) := kg_8_5 (i := 19) rfl
theorem kc_8_471 : xe_code 8 471 = some (.putfield 151, [12, 57, 1004]) := kg_8_5 (i := 20) rfl
theorem kc_8_474 : xe_code 8 474 = some (.aload_n 0, []) := kg_8_5 (i := 21) rfl
theorem kc_8_475 : xe_code 8 475 = some (.bipush 12, []) := kg_8_5 (i := 22) rfl
theorem kc_8_477 : xe_code 8 477 = some (.newarray .int, [0, 109]) := kg_8_5 (i := 23) rfl
theorem kc_8_479 : xe_code 8 479 = some (.putfield 154, [12, 58, 1005]) := kg_8_5 (i := 24) rfl
theorem kc_8_482 : xe_code 8 482 = some (.aload_n 0, []) := kg_8_5 (i := 25) rfl
theorem kc_8_483 : xe_code 8 483 = some (.bipush 12, []) := kg_8_5 (i := 26) rfl
theorem kc_8_485 : xe_code 8 485 = some (.newarray .int, [0, 109]) := kg_8_5 (i := 27) rfl
theorem kc_8_487 : xe_code 8 487 = some (.putfield 157, [12, 59, 1006]) := kg_8_5 (i := 28) rfl
theorem kc_8_490 : xe_code 8 490 = some (.aload_n 0, []) := kg_8_5 (i := 29) rfl
theorem kc_8_491 : xe_code 8 491 = some (.bipush 12, []) := kg_8_5 (i := 30) rfl
theorem kc_8_493 : xe_code 8 493 = some (.newarray .int, [0, 109]) := kg_8_5 (i := 31) rfl
theorem kc_8_495 : xe_code 8 495 = some (.putfield 160, [12, 60, 1007]) := kg_8_5 (i := 32) rfl
theorem kc_8_498 : xe_code 8 498 = some (.aload_n 0, []) := kg_8_5 (i := 33) rfl
theorem kc_8_499 : xe_code 8 499 = some (.bipush 8, []) := kg_8_5 (i := 34) rfl
theorem kc_8_501 : xe_code 8 501 = some (.newarray .int, [0, 109]) := kg_8_5 (i := 35) rfl
theorem kc_8_503 : xe_code 8 503 = some (.putfield 163, [12, 62, 1009]) := kg_8_5 (i := 36) rfl
theorem kc_8_506 : xe_code 8 506 = some (.aload_n 0, []) := kg_8_5 (i := 37) rfl
theorem kc_8_507 : xe_code 8 507 = some (.iconst 4, []) := kg_8_5 (i := 38) rfl
theorem kc_8_508 : xe_code 8 508 = some (.newarray .int, [0, 109]) := kg_8_5 (i := 39) rfl
theorem kc_8_510 : xe_code 8 510 = some (.putfield 166, [12, 63, 1010]) := kg_8_5 (i := 40) rfl
theorem kc_8_513 : xe_code 8 513 = some (.iconst 0, []) := kg_8_5 (i := 41) rfl
theorem kc_8_514 : xe_code 8 514 = some (.istore_n 1, []) := kg_8_5 (i := 42) rfl
theorem kc_8_515 : xe_code 8 515 = some (.iload_n 1, []) := kg_8_5 (i := 43) rfl
theorem kc_8_516 : xe_code 8 516 = some (.sipush 600, []) := kg_8_5 (i := 44) rfl
theorem kc_8_519 : xe_code 8 519 = some (.if_icmp .ge 25, [544]) := kg_8_5 (i := 45) rfl
theorem kc_8_522 : xe_code 8 522 = some (.aload_n 0, []) := kg_8_5 (i := 46) rfl
theorem kc_8_523 : xe_code 8 523 = some (.getfield 31, [12, 9, 956]) := kg_8_5 (i := 47) rfl
theorem kc_8_526 : xe_code 8 526 = some (.iload_n 1, []) := kg_8_6 (i := 0) rfl
theorem kc_8_527 : xe_code 8 527 = some (.bipush 99, []) := kg_8_6 (i := 1) rfl
theorem kc_8_529 : xe_code 8 529 = some (.iastore, []) := kg_8_6 (i := 2) rfl
theorem kc_8_530 : xe_code 8 530 = some (.aload_n 0, []) := kg_8_6 (i := 3) rfl
theorem kc_8_531 : xe_code 8 531 = some (.getfield 34, [12, 10, 957]) := kg_8_6 (i := 4) rfl
theorem kc_8_534 : xe_code 8 534 = some (.iload_n 1, []) := kg_8_6 (i := 5) rfl
theorem kc_8_535 : xe_code 8 535 = some (.bipush 99, []) := kg_8_6 (i := 6) rfl
theorem kc_8_537 : xe_code 8 537 = some (.iastore, []) := kg_8_6 (i := 7) rfl
theorem kc_8_538 : xe_code 8 538 = some (.iinc 1 1, []) := kg_8_6 (i := 8) rfl
theorem kc_8_541 : xe_code 8 541 = some (.goto (-26), [515]) := kg_8_6 (i := 9) rfl
theorem kc_8_544 : xe_code 8 544 = some (.iconst 0, []) := kg_8_6 (i := 10) rfl
theorem kc_8_545 : xe_code 8 545 = some (.istore_n 1, []) := kg_8_6 (i := 11) rfl
theorem kc_8_546 : xe_code 8 546 = some (.iload_n 1, []) := kg_8_6 (i := 12) rfl
theorem kc_8_547 : xe_code 8 547 = some (.bipush 12, []) := kg_8_6 (i := 13) rfl
theorem kc_8_549 : xe_code 8 549 = some (.if_icmp .ge 17, [566]) := kg_8_6 (i := 14) rfl
theorem kc_8_552 : xe_code 8 552 = some (.aload_n 0, []) := kg_8_6 (i := 15) rfl
theorem kc_8_553 : xe_code 8 553 = some (.getfield 37, [12, 11, 958]) := kg_8_6 (i := 16) rfl
theorem kc_8_556 : xe_code 8 556 = some (.iload_n 1, []) := kg_8_6 (i := 17) rfl
theorem kc_8_557 : xe_code 8 557 = some (.bipush (-9), []) := kg_8_6 (i := 18) rfl
theorem kc_8_559 : xe_code 8 559 = some (.iastore, []) := kg_8_6 (i := 19) rfl
theorem kc_8_560 : xe_code 8 560 = some (.iinc 1 1, []) := kg_8_6 (i := 20) rfl
theorem kc_8_563 : xe_code 8 563 = some (.goto (-17), [546]) := kg_8_6 (i := 21) rfl
theorem kc_8_566 : xe_code 8 566 = some (.iconst 0, []) := kg_8_6 (i := 22) rfl
theorem kc_8_567 : xe_code 8 567 = some (.istore_n 1, []) := kg_8_6 (i := 23) rfl
theorem kc_8_568 : xe_code 8 568 = some (.iload_n 1, []) := kg_8_6 (i := 24) rfl
theorem kc_8_569 : xe_code 8 569 = some (.bipush 24, []) := kg_8_6 (i := 25) rfl
theorem kc_8_571 : xe_code 8 571 = some (.if_icmp .ge 16, [587]) := kg_8_6 (i := 26) rfl
theorem kc_8_574 : xe_code 8 574 = some (.aload_n 0, []) := kg_8_6 (i := 27) rfl
theorem kc_8_575 : xe_code 8 575 = some (.getfield 142, [12, 52, 999]) := kg_8_6 (i := 28) rfl
theorem kc_8_578 : xe_code 8 578 = some (.iload_n 1, []) := kg_8_6 (i := 29) rfl
theorem kc_8_579 : xe_code 8 579 = some (.iconst 2, []) := kg_8_6 (i := 30) rfl
theorem kc_8_580 : xe_code 8 580 = some (.iastore, []) := kg_8_6 (i := 31) rfl
theorem kc_8_581 : xe_code 8 581 = some (.iinc 1 1, []) := kg_8_6 (i := 32) rfl
theorem kc_8_584 : xe_code 8 584 = some (.goto (-16), [568]) := kg_8_6 (i := 33) rfl
theorem kc_8_587 : xe_code 8 587 = some (.iconst 0, []) := kg_8_6 (i := 34) rfl
theorem kc_8_588 : xe_code 8 588 = some (.istore_n 1, []) := kg_8_6 (i := 35) rfl
theorem kc_8_589 : xe_code 8 589 = some (.iload_n 1, []) := kg_8_6 (i := 36) rfl
theorem kc_8_590 : xe_code 8 590 = some (.bipush 8, []) := kg_8_6 (i := 37) rfl
theorem kc_8_592 : xe_code 8 592 = some (.if_icmp .ge 16, [608]) := kg_8_6 (i := 38) rfl
theorem kc_8_595 : xe_code 8 595 = some (.aload_n 0, []) := kg_8_6 (i := 39) rfl
theorem kc_8_596 : xe_code 8 596 = some (.getfield 163, [12, 62, 1009]) := kg_8_6 (i := 40) rfl
theorem kc_8_599 : xe_code 8 599 = some (.iload_n 1, []) := kg_8_6 (i := 41) rfl
theorem kc_8_600 : xe_code 8 600 = some (.iconst (-1), []) := kg_8_6 (i := 42) rfl
theorem kc_8_601 : xe_code 8 601 = some (.iastore, []) := kg_8_6 (i := 43) rfl
theorem kc_8_602 : xe_code 8 602 = some (.iinc 1 1, []) := kg_8_6 (i := 44) rfl
theorem kc_8_605 : xe_code 8 605 = some (.goto (-16), [589]) := kg_8_6 (i := 45) rfl
theorem kc_8_608 : xe_code 8 608 = some (.iconst 0, []) := kg_8_6 (i := 46) rfl
theorem kc_8_609 : xe_code 8 609 = some (.istore_n 1, []) := kg_8_6 (i := 47) rfl
theorem kc_8_610 : xe_code 8 610 = some (.iload_n 1, []) := kg_8_7 (i := 0) rfl
theorem kc_8_611 : xe_code 8 611 = some (.iconst 4, []) := kg_8_7 (i := 1) rfl
theorem kc_8_612 : xe_code 8 612 = some (.if_icmp .ge 16, [628]) := kg_8_7 (i := 2) rfl
theorem kc_8_615 : xe_code 8 615 = some (.aload_n 0, []) := kg_8_7 (i := 3) rfl
theorem kc_8_616 : xe_code 8 616 = some (.getfield 166, [12, 63, 1010]) := kg_8_7 (i := 4) rfl
theorem kc_8_619 : xe_code 8 619 = some (.iload_n 1, []) := kg_8_7 (i := 5) rfl
theorem kc_8_620 : xe_code 8 620 = some (.iconst (-1), []) := kg_8_7 (i := 6) rfl
theorem kc_8_621 : xe_code 8 621 = some (.iastore, []) := kg_8_7 (i := 7) rfl
theorem kc_8_622 : xe_code 8 622 = some (.iinc 1 1, []) := kg_8_7 (i := 8) rfl
theorem kc_8_625 : xe_code 8 625 = some (.goto (-15), [610]) := kg_8_7 (i := 9) rfl
theorem kc_8_628 : xe_code 8 628 = some (.return_, []) := kg_8_7 (i := 10) rfl
theorem kc_9_0 : xe_code 9 0 = some (.aload_n 0, []) := kg_9_0 (i := 0) rfl
theorem kc_9_1 : xe_code 9 1 = some (.iconst 0, []) := kg_9_0 (i := 1) rfl
theorem kc_9_2 : xe_code 9 2 = some (.putfield 169, [12, 0, 947]) := kg_9_0 (i := 2) rfl
theorem kc_9_5 : xe_code 9 5 = some (.iload_n 1, []) := kg_9_0 (i := 3) rfl
theorem kc_9_6 : xe_code 9 6 = some (.invokestatic 185, [10, 1, 1145, 12]) := kg_9_0 (i := 4) rfl
theorem kc_9_9 : xe_code 9 9 = some (.ifCond .ne 9, [18]) := kg_9_0 (i := 5) rfl
theorem kc_9_12 : xe_code 9 12 = some (.aload_n 0, []) := kg_9_0 (i := 6) rfl
theorem kc_9_13 : xe_code 9 13 = some (.iconst (-1), []) := kg_9_0 (i := 7) rfl
theorem kc_9_14 : xe_code 9 14 = some (.invokevirtual 188, [12, 1, 1151, 12]) := kg_9_0 (i := 8) rfl
theorem kc_9_17 : xe_code 9 17 = some (.ireturn, []) := kg_9_0 (i := 9) rfl
theorem kc_9_18 : xe_code 9 18 = some (.iload_n 2, []) := kg_9_0 (i := 10) rfl
theorem kc_9_19 : xe_code 9 19 = some (.iconst 0, []) := kg_9_0 (i := 11) rfl
theorem kc_9_20 : xe_code 9 20 = some (.iconst 5, []) := kg_9_0 (i := 12) rfl
theorem kc_9_21 : xe_code 9 21 = some (.invokestatic 173, [11, 3, 1148, 12]) := kg_9_0 (i := 13) rfl
theorem kc_9_24 : xe_code 9 24 = some (.ifCond .ne 10, [34]) := kg_9_0 (i := 14) rfl
theorem kc_9_27 : xe_code 9 27 = some (.aload_n 0, []) := kg_9_0 (i := 15) rfl
theorem kc_9_28 : xe_code 9 28 = some (.bipush (-2), []) := kg_9_0 (i := 16) rfl
theorem kc_9_30 : xe_code 9 30 = some (.invokevirtual 188, [12, 1, 1151, 12]) := kg_9_0 (i := 17) rfl
theorem kc_9_33 : xe_code 9 33 = some (.ireturn, []) := kg_9_0 (i := 18) rfl
theorem kc_9_34 : xe_code 9 34 = some (.iload_n 3, []) := kg_9_0 (i := 19) rfl
theorem kc_9_35 : xe_code 9 35 = some (.iload_n 2, []) := kg_9_0 (i := 20) rfl
theorem kc_9_36 : xe_code 9 36 = some (.ifCond .ne 8, [44]) := kg_9_0 (i := 21) rfl
theorem kc_9_39 : xe_code 9 39 = some (.bipush 10, []) := kg_9_0 (i := 22) rfl
theorem kc_9_41 : xe_code 9 41 = some (.goto 4, [45]) := kg_9_0 (i := 23) rfl
theorem kc_9_44 : xe_code 9 44 = some (.iconst 0, []) := kg_9_0 (i := 24) rfl
theorem kc_9_45 : xe_code 9 45 = some (.if_icmp .ge 10, [55]) := kg_9_0 (i := 25) rfl
theorem kc_9_48 : xe_code 9 48 = some (.aload_n 0, []) := kg_9_0 (i := 26) rfl
theorem kc_9_49 : xe_code 9 49 = some (.bipush (-4), []) := kg_9_0 (i := 27) rfl
theorem kc_9_51 : xe_code 9 51 = some (.invokevirtual 188, [12, 1, 1151, 12]) := kg_9_0 (i := 28) rfl
theorem kc_9_54 : xe_code 9 54 = some (.ireturn, []) := kg_9_0 (i := 29) rfl
theorem kc_9_55 : xe_code 9 55 = some (.iload_n 3, []) := kg_9_0 (i := 30) rfl
theorem kc_9_56 : xe_code 9 56 = some (.iload_n 2, []) := kg_9_0 (i := 31) rfl
theorem kc_9_57 : xe_code 9 57 = some (.ifCond .ne 8, [65]) := kg_9_0 (i := 32) rfl
theorem kc_9_60 : xe_code 9 60 = some (.bipush 99, []) := kg_9_0 (i := 33) rfl
theorem kc_9_62 : xe_code 9 62 = some (.goto 34, [96]) := kg_9_0 (i := 34) rfl
theorem kc_9_65 : xe_code 9 65 = some (.iload_n 2, []) := kg_9_0 (i := 35) rfl
theorem kc_9_66 : xe_code 9 66 = some (.iconst 1, []) := kg_9_0 (i := 36) rfl
theorem kc_9_67 : xe_code 9 67 = some (.if_icmp .ne 8, [75]) := kg_9_0 (i := 37) rfl
theorem kc_9_70 : xe_code 9 70 = some (.bipush 30, []) := kg_9_0 (i := 38) rfl
theorem kc_9_72 : xe_code 9 72 = some (.goto 24, [96]) := kg_9_0 (i := 39) rfl
theorem kc_9_75 : xe_code 9 75 = some (.iload_n 2, []) := kg_9_0 (i := 40) rfl
theorem kc_9_76 : xe_code 9 76 = some (.iconst 4, []) := kg_9_0 (i := 41) rfl
theorem kc_9_77 : xe_code 9 77 = some (.if_icmp .ge 8, [85]) := kg_9_0 (i := 42) rfl
theorem kc_9_80 : xe_code 9 80 = some (.bipush 50, []) := kg_9_0 (i := 43) rfl
theorem kc_9_82 : xe_code 9 82 = some (.goto 14, [96]) := kg_9_0 (i := 44) rfl
theorem kc_9_85 : xe_code 9 85 = some (.iload_n 2, []) := kg_9_0 (i := 45) rfl
theorem kc_9_86 : xe_code 9 86 = some (.iconst 4, []) := kg_9_0 (i := 46) rfl
theorem kc_9_87 : xe_code 9 87 = some (.if_icmp .ne 7, [94]) := kg_9_0 (i := 47) rfl
theorem kc_9_90 : xe_code 9 90 = some (.iconst 1, []) := kg_9_1 (i := 0) rfl
theorem kc_9_91 : xe_code 9 91 = some (.goto 5, [96]) := kg_9_1 (i := 1) rfl
theorem kc_9_94 : xe_code 9 94 = some (.ldc 192, [99999, 1155]) := kg_9_1 (i := 2) rfl
theorem kc_9_96 : xe_code 9 96 = some (.if_icmp .le 10, [106]) := kg_9_1 (i := 3) rfl
theorem kc_9_99 : xe_code 9 99 = some (.aload_n 0, []) := kg_9_1 (i := 4) rfl
theorem kc_9_100 : xe_code 9 100 = some (.bipush (-6), []) := kg_9_1 (i := 5) rfl
theorem kc_9_102 : xe_code 9 102 = some (.invokevirtual 188, [12, 1, 1151, 12]) := kg_9_1 (i := 6) rfl
theorem kc_9_105 : xe_code 9 105 = some (.ireturn, []) := kg_9_1 (i := 7) rfl
theorem kc_9_106 : xe_code 9 106 = some (.aload_n 0, []) := kg_9_1 (i := 8) rfl
theorem kc_9_107 : xe_code 9 107 = some (.iload_n 1, []) := kg_9_1 (i := 9) rfl
theorem kc_9_108 : xe_code 9 108 = some (.iload_n 2, []) := kg_9_1 (i := 10) rfl
theorem kc_9_109 : xe_code 9 109 = some (.invokevirtual 193, [13, 2, 1156, 12]) := kg_9_1 (i := 11) rfl
theorem kc_9_112 : xe_code 9 112 = some (.istore 4, []) := kg_9_1 (i := 12) rfl
theorem kc_9_114 : xe_code 9 114 = some (.aload_n 0, []) := kg_9_1 (i := 13) rfl
theorem kc_9_115 : xe_code 9 115 = some (.iload_n 1, []) := kg_9_1 (i := 14) rfl
theorem kc_9_116 : xe_code 9 116 = some (.iload_n 2, []) := kg_9_1 (i := 15) rfl
theorem kc_9_117 : xe_code 9 117 = some (.iload_n 3, []) := kg_9_1 (i := 16) rfl
theorem kc_9_118 : xe_code 9 118 = some (.invokevirtual 197, [14, 3, 1160, 12]) := kg_9_1 (i := 17) rfl
theorem kc_9_121 : xe_code 9 121 = some (.iload 4, []) := kg_9_1 (i := 18) rfl
theorem kc_9_123 : xe_code 9 123 = some (.ireturn, []) := kg_9_1 (i := 19) rfl
theorem kc_10_0 : xe_code 10 0 = some (.iload_n 0, []) := kg_10_0 (i := 0) rfl
theorem kc_10_1 : xe_code 10 1 = some (.iconst 0, []) := kg_10_0 (i := 1) rfl
theorem kc_10_2 : xe_code 10 2 = some (.iconst 5, []) := kg_10_0 (i := 2) rfl
theorem kc_10_3 : xe_code 10 3 = some (.invokestatic 173, [11, 3, 1148, 12]) := kg_10_0 (i := 3) rfl
theorem kc_10_6 : xe_code 10 6 = some (.ireturn, []) := kg_10_0 (i := 4) rfl
theorem kc_11_0 : xe_code 11 0 = some (.iload_n 0, []) := kg_11_0 (i := 0) rfl
theorem kc_11_1 : xe_code 11 1 = some (.iload_n 1, []) := kg_11_0 (i := 1) rfl
theorem kc_11_2 : xe_code 11 2 = some (.if_icmp .lt 12, [14]) := kg_11_0 (i := 2) rfl
theorem kc_11_5 : xe_code 11 5 = some (.iload_n 0, []) := kg_11_0 (i := 3) rfl
theorem kc_11_6 : xe_code 11 6 = some (.iload_n 2, []) := kg_11_0 (i := 4) rfl
theorem kc_11_7 : xe_code 11 7 = some (.if_icmp .gt 7, [14]) := kg_11_0 (i := 5) rfl
theorem kc_11_10 : xe_code 11 10 = some (.iconst 1, []) := kg_11_0 (i := 6) rfl
theorem kc_11_11 : xe_code 11 11 = some (.goto 4, [15]) := kg_11_0 (i := 7) rfl
theorem kc_11_14 : xe_code 11 14 = some (.iconst 0, []) := kg_11_0 (i := 8) rfl
theorem kc_11_15 : xe_code 11 15 = some (.ireturn, []) := kg_11_0 (i := 9) rfl
theorem kc_12_0 : xe_code 12 0 = some (.aload_n 0, []) := kg_12_0 (i := 0) rfl
theorem kc_12_1 : xe_code 12 1 = some (.getfield 87, [12, 29, 976]) := kg_12_0 (i := 1) rfl
theorem kc_12_4 : xe_code 12 4 = some (.iload_n 1, []) := kg_12_0 (i := 2) rfl
theorem kc_12_5 : xe_code 12 5 = some (.ineg, []) := kg_12_0 (i := 3) rfl
theorem kc_12_6 : xe_code 12 6 = some (.dup2, []) := kg_12_0 (i := 4) rfl
theorem kc_12_7 : xe_code 12 7 = some (.iaload, []) := kg_12_0 (i := 5) rfl
theorem kc_12_8 : xe_code 12 8 = some (.iconst 1, []) := kg_12_0 (i := 6) rfl
theorem kc_12_9 : xe_code 12 9 = some (.iadd, []) := kg_12_0 (i := 7) rfl
theorem kc_12_10 : xe_code 12 10 = some (.iastore, []) := kg_12_0 (i := 8) rfl
theorem kc_12_11 : xe_code 12 11 = some (.iload_n 1, []) := kg_12_0 (i := 9) rfl
theorem kc_12_12 : xe_code 12 12 = some (.ireturn, []) := kg_12_0 (i := 10) rfl
theorem kc_13_0 : xe_code 13 0 = some (.iload_n 2, []) := kg_13_0 (i := 0) rfl
theorem kc_13_1 : xe_code 13 1 = some (.tableswitch 70 0 4 #[35, 42, 49, 56, 63], [71, 36, 43, 50, 57, 64]) := kg_13_0 (i := 1) rfl
theorem kc_13_36 : xe_code 13 36 = some (.aload_n 0, []) := kg_13_0 (i := 2) rfl
theorem kc_13_37 : xe_code 13 37 = some (.getfield 7, [12, 2, 949]) := kg_13_0 (i := 3) rfl
theorem kc_13_40 : xe_code 13 40 = some (.iload_n 1, []) := kg_13_0 (i := 4) rfl
theorem kc_13_41 : xe_code 13 41 = some (.iaload, []) := kg_13_0 (i := 5) rfl
theorem kc_13_42 : xe_code 13 42 = some (.ireturn, []) := kg_13_0 (i := 6) rfl
theorem kc_13_43 : xe_code 13 43 = some (.aload_n 0, []) := kg_13_0 (i := 7) rfl
theorem kc_13_44 : xe_code 13 44 = some (.getfield 13, [12, 3, 950]) := kg_13_0 (i := 8) rfl
theorem kc_13_47 : xe_code 13 47 = some (.iload_n 1, []) := kg_13_0 (i := 9) rfl
theorem kc_13_48 : xe_code 13 48 = some (.iaload, []) := kg_13_0 (i := 10) rfl
theorem kc_13_49 : xe_code 13 49 = some (.ireturn, []) := kg_13_0 (i := 11) rfl
theorem kc_13_50 : xe_code 13 50 = some (.aload_n 0, []) := kg_13_0 (i := 12) rfl
theorem kc_13_51 : xe_code 13 51 = some (.getfield 16, [12, 4, 951]) := kg_13_0 (i := 13) rfl
theorem kc_13_54 : xe_code 13 54 = some (.iload_n 1, []) := kg_13_0 (i := 14) rfl
theorem kc_13_55 : xe_code 13 55 = some (.iaload, []) := kg_13_0 (i := 15) rfl
theorem kc_13_56 : xe_code 13 56 = some (.ireturn, []) := kg_13_0 (i := 16) rfl
theorem kc_13_57 : xe_code 13 57 = some (.aload_n 0, []) := kg_13_0 (i := 17) rfl
theorem kc_13_58 : xe_code 13 58 = some (.getfield 19, [12, 5, 952]) := kg_13_0 (i := 18) rfl
theorem kc_13_61 : xe_code 13 61 = some (.iload_n 1, []) := kg_13_0 (i := 19) rfl
theorem kc_13_62 : xe_code 13 62 = some (.iaload, []) := kg_13_0 (i := 20) rfl
theorem kc_13_63 : xe_code 13 63 = some (.ireturn, []) := kg_13_0 (i := 21) rfl
theorem kc_13_64 : xe_code 13 64 = some (.aload_n 0, []) := kg_13_0 (i := 22) rfl
theorem kc_13_65 : xe_code 13 65 = some (.getfield 22, [12, 6, 953]) := kg_13_0 (i := 23) rfl
theorem kc_13_68 : xe_code 13 68 = some (.iload_n 1, []) := kg_13_0 (i := 24) rfl
theorem kc_13_69 : xe_code 13 69 = some (.iaload, []) := kg_13_0 (i := 25) rfl
theorem kc_13_70 : xe_code 13 70 = some (.ireturn, []) := kg_13_0 (i := 26) rfl
theorem kc_13_71 : xe_code 13 71 = some (.aload_n 0, []) := kg_13_0 (i := 27) rfl
theorem kc_13_72 : xe_code 13 72 = some (.getfield 25, [12, 7, 954]) := kg_13_0 (i := 28) rfl
theorem kc_13_75 : xe_code 13 75 = some (.iload_n 1, []) := kg_13_0 (i := 29) rfl
theorem kc_13_76 : xe_code 13 76 = some (.iaload, []) := kg_13_0 (i := 30) rfl
theorem kc_13_77 : xe_code 13 77 = some (.ireturn, []) := kg_13_0 (i := 31) rfl
theorem kc_14_0 : xe_code 14 0 = some (.aload_n 0, []) := kg_14_0 (i := 0) rfl
theorem kc_14_1 : xe_code 14 1 = some (.getfield 7, [12, 2, 949]) := kg_14_0 (i := 1) rfl
theorem kc_14_4 : xe_code 14 4 = some (.iload_n 1, []) := kg_14_0 (i := 2) rfl
theorem kc_14_5 : xe_code 14 5 = some (.iload_n 2, []) := kg_14_0 (i := 3) rfl
theorem kc_14_6 : xe_code 14 6 = some (.ifCond .ne 7, [13]) := kg_14_0 (i := 4) rfl
theorem kc_14_9 : xe_code 14 9 = some (.iload_n 3, []) := kg_14_0 (i := 5) rfl
theorem kc_14_10 : xe_code 14 10 = some (.goto 9, [19]) := kg_14_0 (i := 6) rfl
theorem kc_14_13 : xe_code 14 13 = some (.aload_n 0, []) := kg_14_0 (i := 7) rfl
theorem kc_14_14 : xe_code 14 14 = some (.getfield 7, [12, 2, 949]) := kg_14_0 (i := 8) rfl
theorem kc_14_17 : xe_code 14 17 = some (.iload_n 1, []) := kg_14_0 (i := 9) rfl
theorem kc_14_18 : xe_code 14 18 = some (.iaload, []) := kg_14_0 (i := 10) rfl
theorem kc_14_19 : xe_code 14 19 = some (.iastore, []) := kg_14_0 (i := 11) rfl
theorem kc_14_20 : xe_code 14 20 = some (.aload_n 0, []) := kg_14_0 (i := 12) rfl
theorem kc_14_21 : xe_code 14 21 = some (.getfield 13, [12, 3, 950]) := kg_14_0 (i := 13) rfl
theorem kc_14_24 : xe_code 14 24 = some (.iload_n 1, []) := kg_14_0 (i := 14) rfl
theorem kc_14_25 : xe_code 14 25 = some (.iload_n 2, []) := kg_14_0 (i := 15) rfl
theorem kc_14_26 : xe_code 14 26 = some (.iconst 1, []) := kg_14_0 (i := 16) rfl
theorem kc_14_27 : xe_code 14 27 = some (.if_icmp .ne 7, [34]) := kg_14_0 (i := 17) rfl
theorem kc_14_30 : xe_code 14 30 = some (.iload_n 3, []) := kg_14_0 (i := 18) rfl
theorem kc_14_31 : xe_code 14 31 = some (.goto 9, [40]) := kg_14_0 (i := 19) rfl
theorem kc_14_34 : xe_code 14 34 = some (.aload_n 0, []) := kg_14_0 (i := 20) rfl
theorem kc_14_35 : xe_code 14 35 = some (.getfield 13, [12, 3, 950]) := kg_14_0 (i := 21) rfl
theorem kc_14_38 : xe_code 14 38 = some (.iload_n 1, []) := kg_14_0 (i := 22) rfl
theorem kc_14_39 : xe_code 14 39 = some (.iaload, []) := kg_14_0 (i := 23) rfl
theorem kc_14_40 : xe_code 14 40 = some (.iastore, []) := kg_14_0 (i := 24) rfl
theorem kc_14_41 : xe_code 14 41 = some (.aload_n 0, []) := kg_14_0 (i := 25) rfl
theorem kc_14_42 : xe_code 14 42 = some (.getfield 16, [12, 4, 951]) := kg_14_0 (i := 26) rfl
theorem kc_14_45 : xe_code 14 45 = some (.iload_n 1, []) := kg_14_0 (i := 27) rfl
theorem kc_14_46 : xe_code 14 46 = some (.iload_n 2, []) := kg_14_0 (i := 28) rfl
theorem kc_14_47 : xe_code 14 47 = some (.iconst 2, []) := kg_14_0 (i := 29) rfl
theorem kc_14_48 : xe_code 14 48 = some (.if_icmp .ne 7, [55]) := kg_14_0 (i := 30) rfl
theorem kc_14_51 : xe_code 14 51 = some (.iload_n 3, []) := kg_14_0 (i := 31) rfl
theorem kc_14_52 : xe_code 14 52 = some (.goto 9, [61]) := kg_14_0 (i := 32) rfl
theorem kc_14_55 : xe_code 14 55 = some (.aload_n 0, []) := kg_14_0 (i := 33) rfl
theorem kc_14_56 : xe_code 14 56 = some (.getfield 16, [12, 4, 951]) := kg_14_0 (i := 34) rfl
theorem kc_14_59 : xe_code 14 59 = some (.iload_n 1, []) := kg_14_0 (i := 35) rfl
theorem kc_14_60 : xe_code 14 60 = some (.iaload, []) := kg_14_0 (i := 36) rfl
theorem kc_14_61 : xe_code 14 61 = some (.iastore, []) := kg_14_0 (i := 37) rfl
theorem kc_14_62 : xe_code 14 62 = some (.aload_n 0, []) := kg_14_0 (i := 38) rfl
theorem kc_14_63 : xe_code 14 63 = some (.getfield 19, [12, 5, 952]) := kg_14_0 (i := 39) rfl
theorem kc_14_66 : xe_code 14 66 = some (.iload_n 1, []) := kg_14_0 (i := 40) rfl
theorem kc_14_67 : xe_code 14 67 = some (.iload_n 2, []) := kg_14_0 (i := 41) rfl
theorem kc_14_68 : xe_code 14 68 = some (.iconst 3, []) := kg_14_0 (i := 42) rfl
theorem kc_14_69 : xe_code 14 69 = some (.if_icmp .ne 7, [76]) := kg_14_0 (i := 43) rfl
theorem kc_14_72 : xe_code 14 72 = some (.iload_n 3, []) := kg_14_0 (i := 44) rfl
theorem kc_14_73 : xe_code 14 73 = some (.goto 9, [82]) := kg_14_0 (i := 45) rfl
theorem kc_14_76 : xe_code 14 76 = some (.aload_n 0, []) := kg_14_0 (i := 46) rfl
theorem kc_14_77 : xe_code 14 77 = some (.getfield 19, [12, 5, 952]) := kg_14_0 (i := 47) rfl
theorem kc_14_80 : xe_code 14 80 = some (.iload_n 1, []) := kg_14_1 (i := 0) rfl
theorem kc_14_81 : xe_code 14 81 = some (.iaload, []) := kg_14_1 (i := 1) rfl
theorem kc_14_82 : xe_code 14 82 = some (.iastore, []) := kg_14_1 (i := 2) rfl
theorem kc_14_83 : xe_code 14 83 = some (.aload_n 0, []) := kg_14_1 (i := 3) rfl
theorem kc_14_84 : xe_code 14 84 = some (.getfield 22, [12, 6, 953]) := kg_14_1 (i := 4) rfl
theorem kc_14_87 : xe_code 14 87 = some (.iload_n 1, []) := kg_14_1 (i := 5) rfl
theorem kc_14_88 : xe_code 14 88 = some (.iload_n 2, []) := kg_14_1 (i := 6) rfl
theorem kc_14_89 : xe_code 14 89 = some (.iconst 4, []) := kg_14_1 (i := 7) rfl
theorem kc_14_90 : xe_code 14 90 = some (.if_icmp .ne 7, [97]) := kg_14_1 (i := 8) rfl
theorem kc_14_93 : xe_code 14 93 = some (.iload_n 3, []) := kg_14_1 (i := 9) rfl
theorem kc_14_94 : xe_code 14 94 = some (.goto 9, [103]) := kg_14_1 (i := 10) rfl
theorem kc_14_97 : xe_code 14 97 = some (.aload_n 0, []) := kg_14_1 (i := 11) rfl
theorem kc_14_98 : xe_code 14 98 = some (.getfield 22, [12, 6, 953]) := kg_14_1 (i := 12) rfl
theorem kc_14_101 : xe_code 14 101 = some (.iload_n 1, []) := kg_14_1 (i := 13) rfl
theorem kc_14_102 : xe_code 14 102 = some (.iaload, []) := kg_14_1 (i := 14) rfl
theorem kc_14_103 : xe_code 14 103 = some (.iastore, []) := kg_14_1 (i := 15) rfl
theorem kc_14_104 : xe_code 14 104 = some (.aload_n 0, []) := kg_14_1 (i := 16) rfl
theorem kc_14_105 : xe_code 14 105 = some (.getfield 25, [12, 7, 954]) := kg_14_1 (i := 17) rfl
theorem kc_14_108 : xe_code 14 108 = some (.iload_n 1, []) := kg_14_1 (i := 18) rfl
theorem kc_14_109 : xe_code 14 109 = some (.iload_n 2, []) := kg_14_1 (i := 19) rfl
theorem kc_14_110 : xe_code 14 110 = some (.iconst 5, []) := kg_14_1 (i := 20) rfl
theorem kc_14_111 : xe_code 14 111 = some (.if_icmp .ne 7, [118]) := kg_14_1 (i := 21) rfl
theorem kc_14_114 : xe_code 14 114 = some (.iload_n 3, []) := kg_14_1 (i := 22) rfl
theorem kc_14_115 : xe_code 14 115 = some (.goto 9, [124]) := kg_14_1 (i := 23) rfl
theorem kc_14_118 : xe_code 14 118 = some (.aload_n 0, []) := kg_14_1 (i := 24) rfl
theorem kc_14_119 : xe_code 14 119 = some (.getfield 25, [12, 7, 954]) := kg_14_1 (i := 25) rfl
theorem kc_14_122 : xe_code 14 122 = some (.iload_n 1, []) := kg_14_1 (i := 26) rfl
theorem kc_14_123 : xe_code 14 123 = some (.iaload, []) := kg_14_1 (i := 27) rfl
theorem kc_14_124 : xe_code 14 124 = some (.iastore, []) := kg_14_1 (i := 28) rfl
theorem kc_14_125 : xe_code 14 125 = some (.aload_n 0, []) := kg_14_1 (i := 29) rfl
theorem kc_14_126 : xe_code 14 126 = some (.iconst 0, []) := kg_14_1 (i := 30) rfl
theorem kc_14_127 : xe_code 14 127 = some (.putfield 181, [12, 41, 988]) := kg_14_1 (i := 31) rfl
theorem kc_14_130 : xe_code 14 130 = some (.return_, []) := kg_14_1 (i := 32) rfl
theorem kc_15_0 : xe_code 15 0 = some (.aload_n 0, []) := kg_15_0 (i := 0) rfl
theorem kc_15_1 : xe_code 15 1 = some (.iconst 0, []) := kg_15_0 (i := 1) rfl
theorem kc_15_2 : xe_code 15 2 = some (.putfield 169, [12, 0, 947]) := kg_15_0 (i := 2) rfl
theorem kc_15_5 : xe_code 15 5 = some (.iload_n 1, []) := kg_15_0 (i := 3) rfl
theorem kc_15_6 : xe_code 15 6 = some (.invokestatic 185, [10, 1, 1145, 12]) := kg_15_0 (i := 4) rfl
theorem kc_15_9 : xe_code 15 9 = some (.ifCond .eq 13, [22]) := kg_15_0 (i := 5) rfl
theorem kc_15_12 : xe_code 15 12 = some (.iload_n 2, []) := kg_15_0 (i := 6) rfl
theorem kc_15_13 : xe_code 15 13 = some (.iconst 0, []) := kg_15_0 (i := 7) rfl
theorem kc_15_14 : xe_code 15 14 = some (.bipush 23, []) := kg_15_0 (i := 8) rfl
theorem kc_15_16 : xe_code 15 16 = some (.invokestatic 173, [11, 3, 1148, 12]) := kg_15_0 (i := 9) rfl
theorem kc_15_19 : xe_code 15 19 = some (.ifCond .ne 9, [28]) := kg_15_0 (i := 10) rfl
theorem kc_15_22 : xe_code 15 22 = some (.aload_n 0, []) := kg_15_0 (i := 11) rfl
theorem kc_15_23 : xe_code 15 23 = some (.iconst (-1), []) := kg_15_0 (i := 12) rfl
theorem kc_15_24 : xe_code 15 24 = some (.invokevirtual 188, [12, 1, 1151, 12]) := kg_15_0 (i := 13) rfl
theorem kc_15_27 : xe_code 15 27 = some (.ireturn, []) := kg_15_0 (i := 14) rfl
theorem kc_15_28 : xe_code 15 28 = some (.iload_n 3, []) := kg_15_0 (i := 15) rfl
theorem kc_15_29 : xe_code 15 29 = some (.ifCond .ge 10, [39]) := kg_15_0 (i := 16) rfl
theorem kc_15_32 : xe_code 15 32 = some (.aload_n 0, []) := kg_15_0 (i := 17) rfl
theorem kc_15_33 : xe_code 15 33 = some (.bipush (-4), []) := kg_15_0 (i := 18) rfl
theorem kc_15_35 : xe_code 15 35 = some (.invokevirtual 188, [12, 1, 1151, 12]) := kg_15_0 (i := 19) rfl
theorem kc_15_38 : xe_code 15 38 = some (.ireturn, []) := kg_15_0 (i := 20) rfl
theorem kc_15_39 : xe_code 15 39 = some (.iload_n 3, []) := kg_15_0 (i := 21) rfl
theorem kc_15_40 : xe_code 15 40 = some (.sipush 999, []) := kg_15_0 (i := 22) rfl
theorem kc_15_43 : xe_code 15 43 = some (.if_icmp .le 10, [53]) := kg_15_0 (i := 23) rfl
theorem kc_15_46 : xe_code 15 46 = some (.aload_n 0, []) := kg_15_0 (i := 24) rfl
theorem kc_15_47 : xe_code 15 47 = some (.bipush (-6), []) := kg_15_0 (i := 25) rfl
theorem kc_15_49 : xe_code 15 49 = some (.invokevirtual 188, [12, 1, 1151, 12]) := kg_15_0 (i := 26) rfl
theorem kc_15_52 : xe_code 15 52 = some (.ireturn, []) := kg_15_0 (i := 27) rfl
theorem kc_15_53 : xe_code 15 53 = some (.aload_n 0, []) := kg_15_0 (i := 28) rfl
theorem kc_15_54 : xe_code 15 54 = some (.getfield 28, [12, 8, 955]) := kg_15_0 (i := 29) rfl
theorem kc_15_57 : xe_code 15 57 = some (.bipush 24, []) := kg_15_0 (i := 30) rfl
theorem kc_15_59 : xe_code 15 59 = some (.iload_n 1, []) := kg_15_0 (i := 31) rfl
theorem kc_15_60 : xe_code 15 60 = some (.imul, []) := kg_15_0 (i := 32) rfl
theorem kc_15_61 : xe_code 15 61 = some (.iload_n 2, []) := kg_15_0 (i := 33) rfl
theorem kc_15_62 : xe_code 15 62 = some (.iadd, []) := kg_15_0 (i := 34) rfl
theorem kc_15_63 : xe_code 15 63 = some (.iaload, []) := kg_15_0 (i := 35) rfl
theorem kc_15_64 : xe_code 15 64 = some (.istore 4, []) := kg_15_0 (i := 36) rfl
theorem kc_15_66 : xe_code 15 66 = some (.aload_n 0, []) := kg_15_0 (i := 37) rfl
theorem kc_15_67 : xe_code 15 67 = some (.getfield 28, [12, 8, 955]) := kg_15_0 (i := 38) rfl
theorem kc_15_70 : xe_code 15 70 = some (.bipush 24, []) := kg_15_0 (i := 39) rfl
theorem kc_15_72 : xe_code 15 72 = some (.iload_n 1, []) := kg_15_0 (i := 40) rfl
theorem kc_15_73 : xe_code 15 73 = some (.imul, []) := kg_15_0 (i := 41) rfl
theorem kc_15_74 : xe_code 15 74 = some (.iload_n 2, []) := kg_15_0 (i := 42) rfl
theorem kc_15_75 : xe_code 15 75 = some (.iadd, []) := kg_15_0 (i := 43) rfl
theorem kc_15_76 : xe_code 15 76 = some (.iload_n 3, []) := kg_15_0 (i := 44) rfl
theorem kc_15_77 : xe_code 15 77 = some (.iastore, []) := kg_15_0 (i := 45) rfl
theorem kc_15_78 : xe_code 15 78 = some (.aload_n 0, []) := kg_15_0 (i := 46) rfl
theorem kc_15_79 : xe_code 15 79 = some (.iconst 0, []) := kg_15_0 (i := 47) rfl
theorem kc_15_80 : xe_code 15 80 = some (.putfield 181, [12, 41, 988]) := kg_15_1 (i := 0) rfl
theorem kc_15_83 : xe_code 15 83 = some (.iload 4, []) := kg_15_1 (i := 1) rfl
theorem kc_15_85 : xe_code 15 85 = some (.ireturn, []) := kg_15_1 (i := 2) rfl
theorem kc_16_0 : xe_code 16 0 = some (.aload_n 0, []) := kg_16_0 (i := 0) rfl
theorem kc_16_1 : xe_code 16 1 = some (.iconst 0, []) := kg_16_0 (i := 1) rfl
theorem kc_16_2 : xe_code 16 2 = some (.putfield 169, [12, 0, 947]) := kg_16_0 (i := 2) rfl
theorem kc_16_5 : xe_code 16 5 = some (.iload_n 2, []) := kg_16_0 (i := 3) rfl
theorem kc_16_6 : xe_code 16 6 = some (.iconst 0, []) := kg_16_0 (i := 4) rfl
theorem kc_16_7 : xe_code 16 7 = some (.iconst 1, []) := kg_16_0 (i := 5) rfl
theorem kc_16_8 : xe_code 16 8 = some (.invokestatic 173, [11, 3, 1148, 12]) := kg_16_0 (i := 6) rfl
theorem kc_16_11 : xe_code 16 11 = some (.ifCond .ne 10, [21]) := kg_16_0 (i := 7) rfl
theorem kc_16_14 : xe_code 16 14 = some (.aload_n 0, []) := kg_16_0 (i := 8) rfl
theorem kc_16_15 : xe_code 16 15 = some (.bipush (-2), []) := kg_16_0 (i := 9) rfl
theorem kc_16_17 : xe_code 16 17 = some (.invokevirtual 201, [17, 1, 1172, 12]) := kg_16_0 (i := 10) rfl
theorem kc_16_20 : xe_code 16 20 = some (.ireturn, []) := kg_16_0 (i := 11) rfl
theorem kc_16_21 : xe_code 16 21 = some (.iload_n 1, []) := kg_16_0 (i := 12) rfl
theorem kc_16_22 : xe_code 16 22 = some (.ifCond .lt 17, [39]) := kg_16_0 (i := 13) rfl
theorem kc_16_25 : xe_code 16 25 = some (.iload_n 3, []) := kg_16_0 (i := 14) rfl
theorem kc_16_26 : xe_code 16 26 = some (.iload_n 2, []) := kg_16_0 (i := 15) rfl
theorem kc_16_27 : xe_code 16 27 = some (.ifCond .ne 8, [35]) := kg_16_0 (i := 16) rfl
theorem kc_16_30 : xe_code 16 30 = some (.bipush (-20), []) := kg_16_0 (i := 17) rfl
theorem kc_16_32 : xe_code 16 32 = some (.goto 4, [36]) := kg_16_0 (i := 18) rfl
theorem kc_16_35 : xe_code 16 35 = some (.iconst 0, []) := kg_16_0 (i := 19) rfl
theorem kc_16_36 : xe_code 16 36 = some (.if_icmp .ge 10, [46]) := kg_16_0 (i := 20) rfl
theorem kc_16_39 : xe_code 16 39 = some (.aload_n 0, []) := kg_16_0 (i := 21) rfl
theorem kc_16_40 : xe_code 16 40 = some (.bipush (-4), []) := kg_16_0 (i := 22) rfl
theorem kc_16_42 : xe_code 16 42 = some (.invokevirtual 201, [17, 1, 1172, 12]) := kg_16_0 (i := 23) rfl
theorem kc_16_45 : xe_code 16 45 = some (.ireturn, []) := kg_16_0 (i := 24) rfl
theorem kc_16_46 : xe_code 16 46 = some (.iload_n 1, []) := kg_16_0 (i := 25) rfl
theorem kc_16_47 : xe_code 16 47 = some (.sipush 599, []) := kg_16_0 (i := 26) rfl
theorem kc_16_50 : xe_code 16 50 = some (.if_icmp .gt 24, [74]) := kg_16_0 (i := 27) rfl
theorem kc_16_53 : xe_code 16 53 = some (.iload_n 3, []) := kg_16_0 (i := 28) rfl
theorem kc_16_54 : xe_code 16 54 = some (.iload_n 2, []) := kg_16_0 (i := 29) rfl
theorem kc_16_55 : xe_code 16 55 = some (.ifCond .ne 8, [63]) := kg_16_0 (i := 30) rfl
theorem kc_16_58 : xe_code 16 58 = some (.bipush 30, []) := kg_16_0 (i := 31) rfl
theorem kc_16_60 : xe_code 16 60 = some (.goto 5, [65]) := kg_16_0 (i := 32) rfl
theorem kc_16_63 : xe_code 16 63 = some (.bipush 20, []) := kg_16_0 (i := 33) rfl
theorem kc_16_65 : xe_code 16 65 = some (.if_icmp .le 16, [81]) := kg_16_0 (i := 34) rfl
theorem kc_16_68 : xe_code 16 68 = some (.iload_n 3, []) := kg_16_0 (i := 35) rfl
theorem kc_16_69 : xe_code 16 69 = some (.bipush 99, []) := kg_16_0 (i := 36) rfl
theorem kc_16_71 : xe_code 16 71 = some (.if_icmp .eq 10, [81]) := kg_16_0 (i := 37) rfl
theorem kc_16_74 : xe_code 16 74 = some (.aload_n 0, []) := kg_16_0 (i := 38) rfl
theorem kc_16_75 : xe_code 16 75 = some (.bipush (-6), []) := kg_16_0 (i := 39) rfl
theorem kc_16_77 : xe_code 16 77 = some (.invokevirtual 201, [17, 1, 1172, 12]) := kg_16_0 (i := 40) rfl
theorem kc_16_80 : xe_code 16 80 = some (.ireturn, []) := kg_16_0 (i := 41) rfl
theorem kc_16_81 : xe_code 16 81 = some (.iload_n 2, []) := kg_16_0 (i := 42) rfl
theorem kc_16_82 : xe_code 16 82 = some (.ifCond .ne 12, [94]) := kg_16_0 (i := 43) rfl
theorem kc_16_85 : xe_code 16 85 = some (.aload_n 0, []) := kg_16_0 (i := 44) rfl
theorem kc_16_86 : xe_code 16 86 = some (.getfield 31, [12, 9, 956]) := kg_16_0 (i := 45) rfl
theorem kc_16_89 : xe_code 16 89 = some (.iload_n 1, []) := kg_16_0 (i := 46) rfl
theorem kc_16_90 : xe_code 16 90 = some (.iaload, []) := kg_16_0 (i := 47) rfl
theorem kc_16_91 : xe_code 16 91 = some (.goto 9, [100]) := kg_16_1 (i := 0) rfl
theorem kc_16_94 : xe_code 16 94 = some (.aload_n 0, []) := kg_16_1 (i := 1) rfl
theorem kc_16_95 : xe_code 16 95 = some (.getfield 34, [12, 10, 957]) := kg_16_1 (i := 2) rfl
theorem kc_16_98 : xe_code 16 98 = some (.iload_n 1, []) := kg_16_1 (i := 3) rfl
theorem kc_16_99 : xe_code 16 99 = some (.iaload, []) := kg_16_1 (i := 4) rfl
theorem kc_16_100 : xe_code 16 100 = some (.istore 4, []) := kg_16_1 (i := 5) rfl
theorem kc_16_102 : xe_code 16 102 = some (.aload_n 0, []) := kg_16_1 (i := 6) rfl
theorem kc_16_103 : xe_code 16 103 = some (.getfield 31, [12, 9, 956]) := kg_16_1 (i := 7) rfl
theorem kc_16_106 : xe_code 16 106 = some (.iload_n 1, []) := kg_16_1 (i := 8) rfl
theorem kc_16_107 : xe_code 16 107 = some (.iload_n 2, []) := kg_16_1 (i := 9) rfl
theorem kc_16_108 : xe_code 16 108 = some (.ifCond .ne 7, [115]) := kg_16_1 (i := 10) rfl
theorem kc_16_111 : xe_code 16 111 = some (.iload_n 3, []) := kg_16_1 (i := 11) rfl
theorem kc_16_112 : xe_code 16 112 = some (.goto 9, [121]) := kg_16_1 (i := 12) rfl
theorem kc_16_115 : xe_code 16 115 = some (.aload_n 0, []) := kg_16_1 (i := 13) rfl
theorem kc_16_116 : xe_code 16 116 = some (.getfield 31, [12, 9, 956]) := kg_16_1 (i := 14) rfl
theorem kc_16_119 : xe_code 16 119 = some (.iload_n 1, []) := kg_16_1 (i := 15) rfl
theorem kc_16_120 : xe_code 16 120 = some (.iaload, []) := kg_16_1 (i := 16) rfl
theorem kc_16_121 : xe_code 16 121 = some (.iastore, []) := kg_16_1 (i := 17) rfl
theorem kc_16_122 : xe_code 16 122 = some (.aload_n 0, []) := kg_16_1 (i := 18) rfl
theorem kc_16_123 : xe_code 16 123 = some (.getfield 34, [12, 10, 957]) := kg_16_1 (i := 19) rfl
theorem kc_16_126 : xe_code 16 126 = some (.iload_n 1, []) := kg_16_1 (i := 20) rfl
theorem kc_16_127 : xe_code 16 127 = some (.iload_n 2, []) := kg_16_1 (i := 21) rfl
theorem kc_16_128 : xe_code 16 128 = some (.iconst 1, []) := kg_16_1 (i := 22) rfl
theorem kc_16_129 : xe_code 16 129 = some (.if_icmp .ne 7, [136]) := kg_16_1 (i := 23) rfl
theorem kc_16_132 : xe_code 16 132 = some (.iload_n 3, []) := kg_16_1 (i := 24) rfl
theorem kc_16_133 : xe_code 16 133 = some (.goto 9, [142]) := kg_16_1 (i := 25) rfl
theorem kc_16_136 : xe_code 16 136 = some (.aload_n 0, []) := kg_16_1 (i := 26) rfl
theorem kc_16_137 : xe_code 16 137 = some (.getfield 34, [12, 10, 957]) := kg_16_1 (i := 27) rfl
theorem kc_16_140 : xe_code 16 140 = some (.iload_n 1, []) := kg_16_1 (i := 28) rfl
theorem kc_16_141 : xe_code 16 141 = some (.iaload, []) := kg_16_1 (i := 29) rfl
theorem kc_16_142 : xe_code 16 142 = some (.iastore, []) := kg_16_1 (i := 30) rfl
theorem kc_16_143 : xe_code 16 143 = some (.aload_n 0, []) := kg_16_1 (i := 31) rfl
theorem kc_16_144 : xe_code 16 144 = some (.iconst 0, []) := kg_16_1 (i := 32) rfl
theorem kc_16_145 : xe_code 16 145 = some (.putfield 181, [12, 41, 988]) := kg_16_1 (i := 33) rfl
theorem kc_16_148 : xe_code 16 148 = some (.iload 4, []) := kg_16_1 (i := 34) rfl
theorem kc_16_150 : xe_code 16 150 = some (.ireturn, []) := kg_16_1 (i := 35) rfl
theorem kc_17_0 : xe_code 17 0 = some (.aload_n 0, []) := kg_17_0 (i := 0) rfl
theorem kc_17_1 : xe_code 17 1 = some (.getfield 87, [12, 29, 976]) := kg_17_0 (i := 1) rfl
theorem kc_17_4 : xe_code 17 4 = some (.iload_n 1, []) := kg_17_0 (i := 2) rfl
theorem kc_17_5 : xe_code 17 5 = some (.ineg, []) := kg_17_0 (i := 3) rfl
theorem kc_17_6 : xe_code 17 6 = some (.dup2, []) := kg_17_0 (i := 4) rfl
theorem kc_17_7 : xe_code 17 7 = some (.iaload, []) := kg_17_0 (i := 5) rfl
theorem kc_17_8 : xe_code 17 8 = some (.iconst 1, []) := kg_17_0 (i := 6) rfl
theorem kc_17_9 : xe_code 17 9 = some (.iadd, []) := kg_17_0 (i := 7) rfl
theorem kc_17_10 : xe_code 17 10 = some (.iastore, []) := kg_17_0 (i := 8) rfl
theorem kc_17_11 : xe_code 17 11 = some (.ldc 172, [1000000000, 1176]) := kg_17_0 (i := 9) rfl
theorem kc_17_13 : xe_code 17 13 = some (.iload_n 1, []) := kg_17_0 (i := 10) rfl
theorem kc_17_14 : xe_code 17 14 = some (.isub, []) := kg_17_0 (i := 11) rfl
theorem kc_17_15 : xe_code 17 15 = some (.ireturn, []) := kg_17_0 (i := 12) rfl
theorem kc_18_0 : xe_code 18 0 = some (.aload_n 0, []) := kg_18_0 (i := 0) rfl
theorem kc_18_1 : xe_code 18 1 = some (.iconst 0, []) := kg_18_0 (i := 1) rfl
theorem kc_18_2 : xe_code 18 2 = some (.putfield 169, [12, 0, 947]) := kg_18_0 (i := 2) rfl
theorem kc_18_5 : xe_code 18 5 = some (.iload_n 2, []) := kg_18_0 (i := 3) rfl
theorem kc_18_6 : xe_code 18 6 = some (.iconst 0, []) := kg_18_0 (i := 4) rfl
theorem kc_18_7 : xe_code 18 7 = some (.iconst 1, []) := kg_18_0 (i := 5) rfl
theorem kc_18_8 : xe_code 18 8 = some (.invokestatic 173, [11, 3, 1148, 12]) := kg_18_0 (i := 6) rfl
theorem kc_18_11 : xe_code 18 11 = some (.ifCond .ne 10, [21]) := kg_18_0 (i := 7) rfl
theorem kc_18_14 : xe_code 18 14 = some (.aload_n 0, []) := kg_18_0 (i := 8) rfl
theorem kc_18_15 : xe_code 18 15 = some (.bipush (-2), []) := kg_18_0 (i := 9) rfl
theorem kc_18_17 : xe_code 18 17 = some (.invokevirtual 201, [17, 1, 1172, 12]) := kg_18_0 (i := 10) rfl
theorem kc_18_20 : xe_code 18 20 = some (.ireturn, []) := kg_18_0 (i := 11) rfl
theorem kc_18_21 : xe_code 18 21 = some (.iload_n 1, []) := kg_18_0 (i := 12) rfl
theorem kc_18_22 : xe_code 18 22 = some (.ifCond .ge 10, [32]) := kg_18_0 (i := 13) rfl
theorem kc_18_25 : xe_code 18 25 = some (.aload_n 0, []) := kg_18_0 (i := 14) rfl
theorem kc_18_26 : xe_code 18 26 = some (.bipush (-4), []) := kg_18_0 (i := 15) rfl
theorem kc_18_28 : xe_code 18 28 = some (.invokevirtual 201, [17, 1, 1172, 12]) := kg_18_0 (i := 16) rfl
theorem kc_18_31 : xe_code 18 31 = some (.ireturn, []) := kg_18_0 (i := 17) rfl
theorem kc_18_32 : xe_code 18 32 = some (.iload_n 1, []) := kg_18_0 (i := 18) rfl
theorem kc_18_33 : xe_code 18 33 = some (.sipush 599, []) := kg_18_0 (i := 19) rfl
theorem kc_18_36 : xe_code 18 36 = some (.if_icmp .le 10, [46]) := kg_18_0 (i := 20) rfl
theorem kc_18_39 : xe_code 18 39 = some (.aload_n 0, []) := kg_18_0 (i := 21) rfl
theorem kc_18_40 : xe_code 18 40 = some (.bipush (-6), []) := kg_18_0 (i := 22) rfl
theorem kc_18_42 : xe_code 18 42 = some (.invokevirtual 201, [17, 1, 1172, 12]) := kg_18_0 (i := 23) rfl
theorem kc_18_45 : xe_code 18 45 = some (.ireturn, []) := kg_18_0 (i := 24) rfl
theorem kc_18_46 : xe_code 18 46 = some (.iload_n 2, []) := kg_18_0 (i := 25) rfl
theorem kc_18_47 : xe_code 18 47 = some (.ifCond .ne 11, [58]) := kg_18_0 (i := 26) rfl
theorem kc_18_50 : xe_code 18 50 = some (.aload_n 0, []) := kg_18_0 (i := 27) rfl
theorem kc_18_51 : xe_code 18 51 = some (.iload_n 1, []) := kg_18_0 (i := 28) rfl
theorem kc_18_52 : xe_code 18 52 = some (.invokevirtual 204, [19, 1, 1181, 12]) := kg_18_0 (i := 29) rfl
theorem kc_18_55 : xe_code 18 55 = some (.goto 8, [63]) := kg_18_0 (i := 30) rfl
theorem kc_18_58 : xe_code 18 58 = some (.aload_n 0, []) := kg_18_0 (i := 31) rfl
theorem kc_18_59 : xe_code 18 59 = some (.iload_n 1, []) := kg_18_0 (i := 32) rfl
theorem kc_18_60 : xe_code 18 60 = some (.invokevirtual 207, [20, 1, 1185, 12]) := kg_18_0 (i := 33) rfl
theorem kc_18_63 : xe_code 18 63 = some (.ireturn, []) := kg_18_0 (i := 34) rfl
theorem kc_19_0 : xe_code 19 0 = some (.iload_n 1, []) := kg_19_0 (i := 0) rfl
theorem kc_19_1 : xe_code 19 1 = some (.sipush 599, []) := kg_19_0 (i := 1) rfl
theorem kc_19_4 : xe_code 19 4 = some (.if_icmp .ge 7, [11]) := kg_19_0 (i := 2) rfl
theorem kc_19_7 : xe_code 19 7 = some (.iload_n 1, []) := kg_19_0 (i := 3) rfl
theorem kc_19_8 : xe_code 19 8 = some (.goto 6, [14]) := kg_19_0 (i := 4) rfl
theorem kc_19_11 : xe_code 19 11 = some (.sipush 599, []) := kg_19_0 (i := 5) rfl
theorem kc_19_14 : xe_code 19 14 = some (.istore_n 2, []) := kg_19_0 (i := 6) rfl
theorem kc_19_15 : xe_code 19 15 = some (.iload_n 2, []) := kg_19_0 (i := 7) rfl
theorem kc_19_16 : xe_code 19 16 = some (.ifCond .lt 27, [43]) := kg_19_0 (i := 8) rfl
theorem kc_19_19 : xe_code 19 19 = some (.aload_n 0, []) := kg_19_0 (i := 9) rfl
theorem kc_19_20 : xe_code 19 20 = some (.getfield 31, [12, 9, 956]) := kg_19_0 (i := 10) rfl
theorem kc_19_23 : xe_code 19 23 = some (.iload_n 2, []) := kg_19_0 (i := 11) rfl
theorem kc_19_24 : xe_code 19 24 = some (.iaload, []) := kg_19_0 (i := 12) rfl
theorem kc_19_25 : xe_code 19 25 = some (.bipush 99, []) := kg_19_0 (i := 13) rfl
theorem kc_19_27 : xe_code 19 27 = some (.if_icmp .eq 10, [37]) := kg_19_0 (i := 14) rfl
theorem kc_19_30 : xe_code 19 30 = some (.aload_n 0, []) := kg_19_0 (i := 15) rfl
theorem kc_19_31 : xe_code 19 31 = some (.getfield 31, [12, 9, 956]) := kg_19_0 (i := 16) rfl
theorem kc_19_34 : xe_code 19 34 = some (.iload_n 2, []) := kg_19_0 (i := 17) rfl
theorem kc_19_35 : xe_code 19 35 = some (.iaload, []) := kg_19_0 (i := 18) rfl
theorem kc_19_36 : xe_code 19 36 = some (.ireturn, []) := kg_19_0 (i := 19) rfl
theorem kc_19_37 : xe_code 19 37 = some (.iinc 2 (-1), []) := kg_19_0 (i := 20) rfl
theorem kc_19_40 : xe_code 19 40 = some (.goto (-25), [15]) := kg_19_0 (i := 21) rfl
theorem kc_19_43 : xe_code 19 43 = some (.iconst 5, []) := kg_19_0 (i := 22) rfl
theorem kc_19_44 : xe_code 19 44 = some (.ireturn, []) := kg_19_0 (i := 23) rfl
theorem kc_20_0 : xe_code 20 0 = some (.iload_n 1, []) := kg_20_0 (i := 0) rfl
theorem kc_20_1 : xe_code 20 1 = some (.sipush 599, []) := kg_20_0 (i := 1) rfl
theorem kc_20_4 : xe_code 20 4 = some (.if_icmp .ge 7, [11]) := kg_20_0 (i := 2) rfl
theorem kc_20_7 : xe_code 20 7 = some (.iload_n 1, []) := kg_20_0 (i := 3) rfl
theorem kc_20_8 : xe_code 20 8 = some (.goto 6, [14]) := kg_20_0 (i := 4) rfl
theorem kc_20_11 : xe_code 20 11 = some (.sipush 599, []) := kg_20_0 (i := 5) rfl
theorem kc_20_14 : xe_code 20 14 = some (.istore_n 2, []) := kg_20_0 (i := 6) rfl
theorem kc_20_15 : xe_code 20 15 = some (.iload_n 2, []) := kg_20_0 (i := 7) rfl
theorem kc_20_16 : xe_code 20 16 = some (.ifCond .lt 27, [43]) := kg_20_0 (i := 8) rfl
theorem kc_20_19 : xe_code 20 19 = some (.aload_n 0, []) := kg_20_0 (i := 9) rfl
theorem kc_20_20 : xe_code 20 20 = some (.getfield 34, [12, 10, 957]) := kg_20_0 (i := 10) rfl
theorem kc_20_23 : xe_code 20 23 = some (.iload_n 2, []) := kg_20_0 (i := 11) rfl
theorem kc_20_24 : xe_code 20 24 = some (.iaload, []) := kg_20_0 (i := 12) rfl
theorem kc_20_25 : xe_code 20 25 = some (.bipush 99, []) := kg_20_0 (i := 13) rfl
theorem kc_20_27 : xe_code 20 27 = some (.if_icmp .eq 10, [37]) := kg_20_0 (i := 14) rfl
theorem kc_20_30 : xe_code 20 30 = some (.aload_n 0, []) := kg_20_0 (i := 15) rfl
theorem kc_20_31 : xe_code 20 31 = some (.getfield 34, [12, 10, 957]) := kg_20_0 (i := 16) rfl
theorem kc_20_34 : xe_code 20 34 = some (.iload_n 2, []) := kg_20_0 (i := 17) rfl
theorem kc_20_35 : xe_code 20 35 = some (.iaload, []) := kg_20_0 (i := 18) rfl
theorem kc_20_36 : xe_code 20 36 = some (.ireturn, []) := kg_20_0 (i := 19) rfl
theorem kc_20_37 : xe_code 20 37 = some (.iinc 2 (-1), []) := kg_20_0 (i := 20) rfl
theorem kc_20_40 : xe_code 20 40 = some (.goto (-25), [15]) := kg_20_0 (i := 21) rfl
theorem kc_20_43 : xe_code 20 43 = some (.iconst 0, []) := kg_20_0 (i := 22) rfl
theorem kc_20_44 : xe_code 20 44 = some (.ireturn, []) := kg_20_0 (i := 23) rfl
theorem kc_21_0 : xe_code 21 0 = some (.aload_n 0, []) := kg_21_0 (i := 0) rfl
theorem kc_21_1 : xe_code 21 1 = some (.iconst 0, []) := kg_21_0 (i := 1) rfl
theorem kc_21_2 : xe_code 21 2 = some (.putfield 169, [12, 0, 947]) := kg_21_0 (i := 2) rfl
theorem kc_21_5 : xe_code 21 5 = some (.iload_n 1, []) := kg_21_0 (i := 3) rfl
theorem kc_21_6 : xe_code 21 6 = some (.bipush (-20), []) := kg_21_0 (i := 4) rfl
theorem kc_21_8 : xe_code 21 8 = some (.if_icmp .ge 12, [20]) := kg_21_0 (i := 5) rfl
theorem kc_21_11 : xe_code 21 11 = some (.aload_n 0, []) := kg_21_0 (i := 6) rfl
theorem kc_21_12 : xe_code 21 12 = some (.bipush (-4), []) := kg_21_0 (i := 7) rfl
theorem kc_21_14 : xe_code 21 14 = some (.invokevirtual 188, [12, 1, 1151, 12]) := kg_21_0 (i := 8) rfl
theorem kc_21_17 : xe_code 21 17 = some (.goto 22, [39]) := kg_21_0 (i := 9) rfl
theorem kc_21_20 : xe_code 21 20 = some (.iload_n 1, []) := kg_21_0 (i := 10) rfl
theorem kc_21_21 : xe_code 21 21 = some (.bipush 30, []) := kg_21_0 (i := 11) rfl
theorem kc_21_23 : xe_code 21 23 = some (.if_icmp .le 12, [35]) := kg_21_0 (i := 12) rfl
theorem kc_21_26 : xe_code 21 26 = some (.aload_n 0, []) := kg_21_0 (i := 13) rfl
theorem kc_21_27 : xe_code 21 27 = some (.bipush (-6), []) := kg_21_0 (i := 14) rfl
theorem kc_21_29 : xe_code 21 29 = some (.invokevirtual 188, [12, 1, 1151, 12]) := kg_21_0 (i := 15) rfl
theorem kc_21_32 : xe_code 21 32 = some (.goto 7, [39]) := kg_21_0 (i := 16) rfl
theorem kc_21_35 : xe_code 21 35 = some (.iload_n 1, []) := kg_21_0 (i := 17) rfl
theorem kc_21_36 : xe_code 21 36 = some (.invokestatic 210, [22, 1, 1193, 12]) := kg_21_0 (i := 18) rfl
theorem kc_21_39 : xe_code 21 39 = some (.ireturn, []) := kg_21_0 (i := 19) rfl
theorem kc_22_0 : xe_code 22 0 = some (.iload_n 0, []) := kg_22_0 (i := 0) rfl
theorem kc_22_1 : xe_code 22 1 = some (.ifCond .lt 16, [17]) := kg_22_0 (i := 1) rfl
theorem kc_22_4 : xe_code 22 4 = some (.iconst 5, []) := kg_22_0 (i := 2) rfl
theorem kc_22_5 : xe_code 22 5 = some (.iload_n 0, []) := kg_22_0 (i := 3) rfl
theorem kc_22_6 : xe_code 22 6 = some (.iconst 2, []) := kg_22_0 (i := 4) rfl
theorem kc_22_7 : xe_code 22 7 = some (.idiv, []) := kg_22_0 (i := 5) rfl
theorem kc_22_8 : xe_code 22 8 = some (.iadd, []) := kg_22_0 (i := 6) rfl
theorem kc_22_9 : xe_code 22 9 = some (.iload_n 0, []) := kg_22_0 (i := 7) rfl
theorem kc_22_10 : xe_code 22 10 = some (.iload_n 0, []) := kg_22_0 (i := 8) rfl
theorem kc_22_11 : xe_code 22 11 = some (.imul, []) := kg_22_0 (i := 9) rfl
theorem kc_22_12 : xe_code 22 12 = some (.bipush 40, []) := kg_22_0 (i := 10) rfl
theorem kc_22_14 : xe_code 22 14 = some (.idiv, []) := kg_22_0 (i := 11) rfl
theorem kc_22_15 : xe_code 22 15 = some (.iadd, []) := kg_22_0 (i := 12) rfl
theorem kc_22_16 : xe_code 22 16 = some (.ireturn, []) := kg_22_0 (i := 13) rfl
theorem kc_22_17 : xe_code 22 17 = some (.iconst 5, []) := kg_22_0 (i := 14) rfl
theorem kc_22_18 : xe_code 22 18 = some (.iload_n 0, []) := kg_22_0 (i := 15) rfl
theorem kc_22_19 : xe_code 22 19 = some (.ineg, []) := kg_22_0 (i := 16) rfl
theorem kc_22_20 : xe_code 22 20 = some (.iconst 5, []) := kg_22_0 (i := 17) rfl
theorem kc_22_21 : xe_code 22 21 = some (.idiv, []) := kg_22_0 (i := 18) rfl
theorem kc_22_22 : xe_code 22 22 = some (.isub, []) := kg_22_0 (i := 19) rfl
theorem kc_22_23 : xe_code 22 23 = some (.istore_n 1, []) := kg_22_0 (i := 20) rfl
theorem kc_22_24 : xe_code 22 24 = some (.iload_n 1, []) := kg_22_0 (i := 21) rfl
theorem kc_22_25 : xe_code 22 25 = some (.iconst 1, []) := kg_22_0 (i := 22) rfl
theorem kc_22_26 : xe_code 22 26 = some (.if_icmp .ge 7, [33]) := kg_22_0 (i := 23) rfl
theorem kc_22_29 : xe_code 22 29 = some (.iconst 1, []) := kg_22_0 (i := 24) rfl
theorem kc_22_30 : xe_code 22 30 = some (.goto 4, [34]) := kg_22_0 (i := 25) rfl
theorem kc_22_33 : xe_code 22 33 = some (.iload_n 1, []) := kg_22_0 (i := 26) rfl
theorem kc_22_34 : xe_code 22 34 = some (.ireturn, []) := kg_22_0 (i := 27) rfl
theorem kc_23_0 : xe_code 23 0 = some (.aload_n 0, []) := kg_23_0 (i := 0) rfl
theorem kc_23_1 : xe_code 23 1 = some (.iconst 0, []) := kg_23_0 (i := 1) rfl
theorem kc_23_2 : xe_code 23 2 = some (.putfield 169, [12, 0, 947]) := kg_23_0 (i := 2) rfl
theorem kc_23_5 : xe_code 23 5 = some (.iload_n 1, []) := kg_23_0 (i := 3) rfl
theorem kc_23_6 : xe_code 23 6 = some (.invokestatic 177, [24, 1, 1200, 12]) := kg_23_0 (i := 4) rfl
theorem kc_23_9 : xe_code 23 9 = some (.ifCond .eq 10, [19]) := kg_23_0 (i := 5) rfl
theorem kc_23_12 : xe_code 23 12 = some (.iload_n 2, []) := kg_23_0 (i := 6) rfl
theorem kc_23_13 : xe_code 23 13 = some (.invokestatic 185, [10, 1, 1145, 12]) := kg_23_0 (i := 7) rfl
theorem kc_23_16 : xe_code 23 16 = some (.ifCond .ne 9, [25]) := kg_23_0 (i := 8) rfl
theorem kc_23_19 : xe_code 23 19 = some (.aload_n 0, []) := kg_23_0 (i := 9) rfl
theorem kc_23_20 : xe_code 23 20 = some (.iconst (-1), []) := kg_23_0 (i := 10) rfl
theorem kc_23_21 : xe_code 23 21 = some (.invokevirtual 188, [12, 1, 1151, 12]) := kg_23_0 (i := 11) rfl
theorem kc_23_24 : xe_code 23 24 = some (.ireturn, []) := kg_23_0 (i := 12) rfl
theorem kc_23_25 : xe_code 23 25 = some (.iload_n 3, []) := kg_23_0 (i := 13) rfl
theorem kc_23_26 : xe_code 23 26 = some (.ifCond .ge 10, [36]) := kg_23_0 (i := 14) rfl
theorem kc_23_29 : xe_code 23 29 = some (.aload_n 0, []) := kg_23_0 (i := 15) rfl
theorem kc_23_30 : xe_code 23 30 = some (.bipush (-4), []) := kg_23_0 (i := 16) rfl
theorem kc_23_32 : xe_code 23 32 = some (.invokevirtual 188, [12, 1, 1151, 12]) := kg_23_0 (i := 17) rfl
theorem kc_23_35 : xe_code 23 35 = some (.ireturn, []) := kg_23_0 (i := 18) rfl
theorem kc_23_36 : xe_code 23 36 = some (.iload_n 3, []) := kg_23_0 (i := 19) rfl
theorem kc_23_37 : xe_code 23 37 = some (.bipush 100, []) := kg_23_0 (i := 20) rfl
theorem kc_23_39 : xe_code 23 39 = some (.if_icmp .le 10, [49]) := kg_23_0 (i := 21) rfl
theorem kc_23_42 : xe_code 23 42 = some (.aload_n 0, []) := kg_23_0 (i := 22) rfl
theorem kc_23_43 : xe_code 23 43 = some (.bipush (-6), []) := kg_23_0 (i := 23) rfl
theorem kc_23_45 : xe_code 23 45 = some (.invokevirtual 188, [12, 1, 1151, 12]) := kg_23_0 (i := 24) rfl
theorem kc_23_48 : xe_code 23 48 = some (.ireturn, []) := kg_23_0 (i := 25) rfl
theorem kc_23_49 : xe_code 23 49 = some (.aload_n 0, []) := kg_23_0 (i := 26) rfl
theorem kc_23_50 : xe_code 23 50 = some (.getfield 37, [12, 11, 958]) := kg_23_0 (i := 27) rfl
theorem kc_23_53 : xe_code 23 53 = some (.iload_n 1, []) := kg_23_0 (i := 28) rfl
theorem kc_23_54 : xe_code 23 54 = some (.iaload, []) := kg_23_0 (i := 29) rfl
theorem kc_23_55 : xe_code 23 55 = some (.ifCond .lt 7, [62]) := kg_23_0 (i := 30) rfl
theorem kc_23_58 : xe_code 23 58 = some (.iconst 1, []) := kg_23_0 (i := 31) rfl
theorem kc_23_59 : xe_code 23 59 = some (.goto 4, [63]) := kg_23_0 (i := 32) rfl
theorem kc_23_62 : xe_code 23 62 = some (.iconst 0, []) := kg_23_0 (i := 33) rfl
theorem kc_23_63 : xe_code 23 63 = some (.istore 5, []) := kg_23_0 (i := 34) rfl
theorem kc_23_65 : xe_code 23 65 = some (.aload_n 0, []) := kg_23_0 (i := 35) rfl
theorem kc_23_66 : xe_code 23 66 = some (.getfield 37, [12, 11, 958]) := kg_23_0 (i := 36) rfl
theorem kc_23_69 : xe_code 23 69 = some (.iload_n 1, []) := kg_23_0 (i := 37) rfl
theorem kc_23_70 : xe_code 23 70 = some (.iload_n 2, []) := kg_23_0 (i := 38) rfl
theorem kc_23_71 : xe_code 23 71 = some (.iastore, []) := kg_23_0 (i := 39) rfl
theorem kc_23_72 : xe_code 23 72 = some (.aload_n 0, []) := kg_23_0 (i := 40) rfl
theorem kc_23_73 : xe_code 23 73 = some (.getfield 40, [12, 12, 959]) := kg_23_0 (i := 41) rfl
theorem kc_23_76 : xe_code 23 76 = some (.iload_n 1, []) := kg_23_0 (i := 42) rfl
theorem kc_23_77 : xe_code 23 77 = some (.iload_n 3, []) := kg_23_0 (i := 43) rfl
theorem kc_23_78 : xe_code 23 78 = some (.iastore, []) := kg_23_0 (i := 44) rfl
theorem kc_23_79 : xe_code 23 79 = some (.aload_n 0, []) := kg_23_0 (i := 45) rfl
theorem kc_23_80 : xe_code 23 80 = some (.getfield 43, [12, 13, 960]) := kg_23_0 (i := 46) rfl
theorem kc_23_83 : xe_code 23 83 = some (.iload_n 1, []) := kg_23_0 (i := 47) rfl
theorem kc_23_84 : xe_code 23 84 = some (.iload 4, []) := kg_23_1 (i := 0) rfl
theorem kc_23_86 : xe_code 23 86 = some (.bastore, []) := kg_23_1 (i := 1) rfl
theorem kc_23_87 : xe_code 23 87 = some (.aload_n 0, []) := kg_23_1 (i := 2) rfl
theorem kc_23_88 : xe_code 23 88 = some (.iconst 0, []) := kg_23_1 (i := 3) rfl
theorem kc_23_89 : xe_code 23 89 = some (.putfield 181, [12, 41, 988]) := kg_23_1 (i := 4) rfl
theorem kc_23_92 : xe_code 23 92 = some (.iload 5, []) := kg_23_1 (i := 5) rfl
theorem kc_23_94 : xe_code 23 94 = some (.ifCond .eq 7, [101]) := kg_23_1 (i := 6) rfl
theorem kc_23_97 : xe_code 23 97 = some (.iconst 0, []) := kg_23_1 (i := 7) rfl
theorem kc_23_98 : xe_code 23 98 = some (.goto 4, [102]) := kg_23_1 (i := 8) rfl
theorem kc_23_101 : xe_code 23 101 = some (.iconst 1, []) := kg_23_1 (i := 9) rfl
theorem kc_23_102 : xe_code 23 102 = some (.ireturn, []) := kg_23_1 (i := 10) rfl
theorem kc_24_0 : xe_code 24 0 = some (.iload_n 0, []) := kg_24_0 (i := 0) rfl
theorem kc_24_1 : xe_code 24 1 = some (.iconst 0, []) := kg_24_0 (i := 1) rfl
theorem kc_24_2 : xe_code 24 2 = some (.bipush 11, []) := kg_24_0 (i := 2) rfl
theorem kc_24_4 : xe_code 24 4 = some (.invokestatic 173, [11, 3, 1148, 12]) := kg_24_0 (i := 3) rfl
theorem kc_24_7 : xe_code 24 7 = some (.ireturn, []) := kg_24_0 (i := 4) rfl
theorem kc_25_0 : xe_code 25 0 = some (.aload_n 0, []) := kg_25_0 (i := 0) rfl
theorem kc_25_1 : xe_code 25 1 = some (.iconst 0, []) := kg_25_0 (i := 1) rfl
theorem kc_25_2 : xe_code 25 2 = some (.putfield 169, [12, 0, 947]) := kg_25_0 (i := 2) rfl
theorem kc_25_5 : xe_code 25 5 = some (.iload_n 1, []) := kg_25_0 (i := 3) rfl
theorem kc_25_6 : xe_code 25 6 = some (.invokestatic 177, [24, 1, 1200, 12]) := kg_25_0 (i := 4) rfl
theorem kc_25_9 : xe_code 25 9 = some (.ifCond .ne 9, [18]) := kg_25_0 (i := 5) rfl
theorem kc_25_12 : xe_code 25 12 = some (.aload_n 0, []) := kg_25_0 (i := 6) rfl
theorem kc_25_13 : xe_code 25 13 = some (.iconst (-1), []) := kg_25_0 (i := 7) rfl
theorem kc_25_14 : xe_code 25 14 = some (.invokevirtual 188, [12, 1, 1151, 12]) := kg_25_0 (i := 8) rfl
theorem kc_25_17 : xe_code 25 17 = some (.ireturn, []) := kg_25_0 (i := 9) rfl
theorem kc_25_18 : xe_code 25 18 = some (.iload_n 2, []) := kg_25_0 (i := 10) rfl
theorem kc_25_19 : xe_code 25 19 = some (.iconst 0, []) := kg_25_0 (i := 11) rfl
theorem kc_25_20 : xe_code 25 20 = some (.iconst 5, []) := kg_25_0 (i := 12) rfl
theorem kc_25_21 : xe_code 25 21 = some (.invokestatic 173, [11, 3, 1148, 12]) := kg_25_0 (i := 13) rfl
theorem kc_25_24 : xe_code 25 24 = some (.ifCond .ne 10, [34]) := kg_25_0 (i := 14) rfl
theorem kc_25_27 : xe_code 25 27 = some (.aload_n 0, []) := kg_25_0 (i := 15) rfl
theorem kc_25_28 : xe_code 25 28 = some (.bipush (-2), []) := kg_25_0 (i := 16) rfl
theorem kc_25_30 : xe_code 25 30 = some (.invokevirtual 188, [12, 1, 1151, 12]) := kg_25_0 (i := 17) rfl
theorem kc_25_33 : xe_code 25 33 = some (.ireturn, []) := kg_25_0 (i := 18) rfl
theorem kc_25_34 : xe_code 25 34 = some (.iload_n 2, []) := kg_25_0 (i := 19) rfl
theorem kc_25_35 : xe_code 25 35 = some (.tableswitch 76 0 4 #[33, 40, 47, 62, 69], [111, 68, 75, 82, 97, 104]) := kg_25_0 (i := 20) rfl
theorem kc_25_68 : xe_code 25 68 = some (.aload_n 0, []) := kg_25_0 (i := 21) rfl
theorem kc_25_69 : xe_code 25 69 = some (.getfield 37, [12, 11, 958]) := kg_25_0 (i := 22) rfl
theorem kc_25_72 : xe_code 25 72 = some (.iload_n 1, []) := kg_25_0 (i := 23) rfl
theorem kc_25_73 : xe_code 25 73 = some (.iaload, []) := kg_25_0 (i := 24) rfl
theorem kc_25_74 : xe_code 25 74 = some (.ireturn, []) := kg_25_0 (i := 25) rfl
theorem kc_25_75 : xe_code 25 75 = some (.aload_n 0, []) := kg_25_0 (i := 26) rfl
theorem kc_25_76 : xe_code 25 76 = some (.getfield 40, [12, 12, 959]) := kg_25_0 (i := 27) rfl
theorem kc_25_79 : xe_code 25 79 = some (.iload_n 1, []) := kg_25_0 (i := 28) rfl
theorem kc_25_80 : xe_code 25 80 = some (.iaload, []) := kg_25_0 (i := 29) rfl
theorem kc_25_81 : xe_code 25 81 = some (.ireturn, []) := kg_25_0 (i := 30) rfl
theorem kc_25_82 : xe_code 25 82 = some (.aload_n 0, []) := kg_25_0 (i := 31) rfl
theorem kc_25_83 : xe_code 25 83 = some (.getfield 43, [12, 13, 960]) := kg_25_0 (i := 32) rfl
theorem kc_25_86 : xe_code 25 86 = some (.iload_n 1, []) := kg_25_0 (i := 33) rfl
theorem kc_25_87 : xe_code 25 87 = some (.baload, []) := kg_25_0 (i := 34) rfl
theorem kc_25_88 : xe_code 25 88 = some (.ifCond .eq 7, [95]) := kg_25_0 (i := 35) rfl
theorem kc_25_91 : xe_code 25 91 = some (.iconst 1, []) := kg_25_0 (i := 36) rfl
theorem kc_25_92 : xe_code 25 92 = some (.goto 4, [96]) := kg_25_0 (i := 37) rfl
theorem kc_25_95 : xe_code 25 95 = some (.iconst 0, []) := kg_25_0 (i := 38) rfl
theorem kc_25_96 : xe_code 25 96 = some (.ireturn, []) := kg_25_0 (i := 39) rfl
theorem kc_25_97 : xe_code 25 97 = some (.aload_n 0, []) := kg_25_0 (i := 40) rfl
theorem kc_25_98 : xe_code 25 98 = some (.getfield 47, [12, 14, 961]) := kg_25_0 (i := 41) rfl
theorem kc_25_101 : xe_code 25 101 = some (.iload_n 1, []) := kg_25_0 (i := 42) rfl
theorem kc_25_102 : xe_code 25 102 = some (.iaload, []) := kg_25_0 (i := 43) rfl
theorem kc_25_103 : xe_code 25 103 = some (.ireturn, []) := kg_25_0 (i := 44) rfl
theorem kc_25_104 : xe_code 25 104 = some (.aload_n 0, []) := kg_25_0 (i := 45) rfl
theorem kc_25_105 : xe_code 25 105 = some (.getfield 50, [12, 15, 962]) := kg_25_0 (i := 46) rfl
theorem kc_25_108 : xe_code 25 108 = some (.iload_n 1, []) := kg_25_0 (i := 47) rfl
theorem kc_25_109 : xe_code 25 109 = some (.iaload, []) := kg_25_1 (i := 0) rfl
theorem kc_25_110 : xe_code 25 110 = some (.ireturn, []) := kg_25_1 (i := 1) rfl
theorem kc_25_111 : xe_code 25 111 = some (.aload_n 0, []) := kg_25_1 (i := 2) rfl
theorem kc_25_112 : xe_code 25 112 = some (.getfield 37, [12, 11, 958]) := kg_25_1 (i := 3) rfl
theorem kc_25_115 : xe_code 25 115 = some (.iload_n 1, []) := kg_25_1 (i := 4) rfl
theorem kc_25_116 : xe_code 25 116 = some (.iaload, []) := kg_25_1 (i := 5) rfl
theorem kc_25_117 : xe_code 25 117 = some (.ifCond .ge 7, [124]) := kg_25_1 (i := 6) rfl
theorem kc_25_120 : xe_code 25 120 = some (.iconst 0, []) := kg_25_1 (i := 7) rfl
theorem kc_25_121 : xe_code 25 121 = some (.goto 12, [133]) := kg_25_1 (i := 8) rfl
theorem kc_25_124 : xe_code 25 124 = some (.aload_n 0, []) := kg_25_1 (i := 9) rfl
theorem kc_25_125 : xe_code 25 125 = some (.iload_n 1, []) := kg_25_1 (i := 10) rfl
theorem kc_25_126 : xe_code 25 126 = some (.aload_n 0, []) := kg_25_1 (i := 11) rfl
theorem kc_25_127 : xe_code 25 127 = some (.getfield 213, [12, 1, 948]) := kg_25_1 (i := 12) rfl
theorem kc_25_130 : xe_code 25 130 = some (.invokevirtual 216, [26, 2, 1207, 12]) := kg_25_1 (i := 13) rfl
theorem kc_25_133 : xe_code 25 133 = some (.ireturn, []) := kg_25_1 (i := 14) rfl
theorem kc_26_0 : xe_code 26 0 = some (.aload_n 0, []) := kg_26_0 (i := 0) rfl
theorem kc_26_1 : xe_code 26 1 = some (.getfield 13, [12, 3, 950]) := kg_26_0 (i := 1) rfl
theorem kc_26_4 : xe_code 26 4 = some (.aload_n 0, []) := kg_26_0 (i := 2) rfl
theorem kc_26_5 : xe_code 26 5 = some (.getfield 37, [12, 11, 958]) := kg_26_0 (i := 3) rfl
theorem kc_26_8 : xe_code 26 8 = some (.iload_n 1, []) := kg_26_0 (i := 4) rfl
theorem kc_26_9 : xe_code 26 9 = some (.iaload, []) := kg_26_0 (i := 5) rfl
theorem kc_26_10 : xe_code 26 10 = some (.iaload, []) := kg_26_0 (i := 6) rfl
theorem kc_26_11 : xe_code 26 11 = some (.aload_n 0, []) := kg_26_0 (i := 7) rfl
theorem kc_26_12 : xe_code 26 12 = some (.iload_n 2, []) := kg_26_0 (i := 8) rfl
theorem kc_26_13 : xe_code 26 13 = some (.invokevirtual 204, [19, 1, 1181, 12]) := kg_26_0 (i := 9) rfl
theorem kc_26_16 : xe_code 26 16 = some (.isub, []) := kg_26_0 (i := 10) rfl
theorem kc_26_17 : xe_code 26 17 = some (.aload_n 0, []) := kg_26_0 (i := 11) rfl
theorem kc_26_18 : xe_code 26 18 = some (.getfield 40, [12, 12, 959]) := kg_26_0 (i := 12) rfl
theorem kc_26_21 : xe_code 26 21 = some (.iload_n 1, []) := kg_26_0 (i := 13) rfl
theorem kc_26_22 : xe_code 26 22 = some (.iaload, []) := kg_26_0 (i := 14) rfl
theorem kc_26_23 : xe_code 26 23 = some (.imul, []) := kg_26_0 (i := 15) rfl
theorem kc_26_24 : xe_code 26 24 = some (.bipush 100, []) := kg_26_0 (i := 16) rfl
theorem kc_26_26 : xe_code 26 26 = some (.idiv, []) := kg_26_0 (i := 17) rfl
theorem kc_26_27 : xe_code 26 27 = some (.istore_n 3, []) := kg_26_0 (i := 18) rfl
theorem kc_26_28 : xe_code 26 28 = some (.iload_n 3, []) := kg_26_0 (i := 19) rfl
theorem kc_26_29 : xe_code 26 29 = some (.ifCond .ge 7, [36]) := kg_26_0 (i := 20) rfl
theorem kc_26_32 : xe_code 26 32 = some (.iconst 0, []) := kg_26_0 (i := 21) rfl
theorem kc_26_33 : xe_code 26 33 = some (.goto 4, [37]) := kg_26_0 (i := 22) rfl
theorem kc_26_36 : xe_code 26 36 = some (.iload_n 3, []) := kg_26_0 (i := 23) rfl
theorem kc_26_37 : xe_code 26 37 = some (.ireturn, []) := kg_26_0 (i := 24) rfl
theorem kc_27_0 : xe_code 27 0 = some (.aload_n 0, []) := kg_27_0 (i := 0) rfl
theorem kc_27_1 : xe_code 27 1 = some (.iconst 0, []) := kg_27_0 (i := 1) rfl
theorem kc_27_2 : xe_code 27 2 = some (.putfield 169, [12, 0, 947]) := kg_27_0 (i := 2) rfl
theorem kc_27_5 : xe_code 27 5 = some (.iload_n 1, []) := kg_27_0 (i := 3) rfl
theorem kc_27_6 : xe_code 27 6 = some (.iconst 1, []) := kg_27_0 (i := 4) rfl
theorem kc_27_7 : xe_code 27 7 = some (.if_icmp .ge 10, [17]) := kg_27_0 (i := 5) rfl
theorem kc_27_10 : xe_code 27 10 = some (.aload_n 0, []) := kg_27_0 (i := 6) rfl
theorem kc_27_11 : xe_code 27 11 = some (.bipush (-4), []) := kg_27_0 (i := 7) rfl
theorem kc_27_13 : xe_code 27 13 = some (.invokevirtual 188, [12, 1, 1151, 12]) := kg_27_0 (i := 8) rfl
theorem kc_27_16 : xe_code 27 16 = some (.ireturn, []) := kg_27_0 (i := 9) rfl
theorem kc_27_17 : xe_code 27 17 = some (.iload_n 1, []) := kg_27_0 (i := 10) rfl
theorem kc_27_18 : xe_code 27 18 = some (.bipush 50, []) := kg_27_0 (i := 11) rfl
theorem kc_27_20 : xe_code 27 20 = some (.if_icmp .le 10, [30]) := kg_27_0 (i := 12) rfl
theorem kc_27_23 : xe_code 27 23 = some (.aload_n 0, []) := kg_27_0 (i := 13) rfl
theorem kc_27_24 : xe_code 27 24 = some (.bipush (-6), []) := kg_27_0 (i := 14) rfl
theorem kc_27_26 : xe_code 27 26 = some (.invokevirtual 188, [12, 1, 1151, 12]) := kg_27_0 (i := 15) rfl
theorem kc_27_29 : xe_code 27 29 = some (.ireturn, []) := kg_27_0 (i := 16) rfl
theorem kc_27_30 : xe_code 27 30 = some (.aload_n 0, []) := kg_27_0 (i := 17) rfl
theorem kc_27_31 : xe_code 27 31 = some (.getfield 53, [12, 16, 963]) := kg_27_0 (i := 18) rfl
theorem kc_27_34 : xe_code 27 34 = some (.istore_n 2, []) := kg_27_0 (i := 19) rfl
theorem kc_27_35 : xe_code 27 35 = some (.aload_n 0, []) := kg_27_0 (i := 20) rfl
theorem kc_27_36 : xe_code 27 36 = some (.iload_n 1, []) := kg_27_0 (i := 21) rfl
theorem kc_27_37 : xe_code 27 37 = some (.putfield 53, [12, 16, 963]) := kg_27_0 (i := 22) rfl
theorem kc_27_40 : xe_code 27 40 = some (.aload_n 0, []) := kg_27_0 (i := 23) rfl
theorem kc_27_41 : xe_code 27 41 = some (.iconst 0, []) := kg_27_0 (i := 24) rfl
theorem kc_27_42 : xe_code 27 42 = some (.putfield 181, [12, 41, 988]) := kg_27_0 (i := 25) rfl
theorem kc_27_45 : xe_code 27 45 = some (.iload_n 2, []) := kg_27_0 (i := 26) rfl
theorem kc_27_46 : xe_code 27 46 = some (.ireturn, []) := kg_27_0 (i := 27) rfl
theorem kc_28_0 : xe_code 28 0 = some (.aload_n 0, []) := kg_28_0 (i := 0) rfl
theorem kc_28_1 : xe_code 28 1 = some (.iconst 0, []) := kg_28_0 (i := 1) rfl
theorem kc_28_2 : xe_code 28 2 = some (.putfield 169, [12, 0, 947]) := kg_28_0 (i := 2) rfl
theorem kc_28_5 : xe_code 28 5 = some (.iload_n 1, []) := kg_28_0 (i := 3) rfl
theorem kc_28_6 : xe_code 28 6 = some (.invokestatic 177, [24, 1, 1200, 12]) := kg_28_0 (i := 4) rfl
theorem kc_28_9 : xe_code 28 9 = some (.ifCond .ne 9, [18]) := kg_28_0 (i := 5) rfl
theorem kc_28_12 : xe_code 28 12 = some (.aload_n 0, []) := kg_28_0 (i := 6) rfl
theorem kc_28_13 : xe_code 28 13 = some (.iconst (-1), []) := kg_28_0 (i := 7) rfl
theorem kc_28_14 : xe_code 28 14 = some (.invokevirtual 188, [12, 1, 1151, 12]) := kg_28_0 (i := 8) rfl
theorem kc_28_17 : xe_code 28 17 = some (.ireturn, []) := kg_28_0 (i := 9) rfl
theorem kc_28_18 : xe_code 28 18 = some (.aload_n 0, []) := kg_28_0 (i := 10) rfl
theorem kc_28_19 : xe_code 28 19 = some (.getfield 50, [12, 15, 962]) := kg_28_0 (i := 11) rfl
theorem kc_28_22 : xe_code 28 22 = some (.iload_n 1, []) := kg_28_0 (i := 12) rfl
theorem kc_28_23 : xe_code 28 23 = some (.iaload, []) := kg_28_0 (i := 13) rfl
theorem kc_28_24 : xe_code 28 24 = some (.istore_n 2, []) := kg_28_0 (i := 14) rfl
theorem kc_28_25 : xe_code 28 25 = some (.aload_n 0, []) := kg_28_0 (i := 15) rfl
theorem kc_28_26 : xe_code 28 26 = some (.getfield 50, [12, 15, 962]) := kg_28_0 (i := 16) rfl
theorem kc_28_29 : xe_code 28 29 = some (.iload_n 1, []) := kg_28_0 (i := 17) rfl
theorem kc_28_30 : xe_code 28 30 = some (.iconst 0, []) := kg_28_0 (i := 18) rfl
theorem kc_28_31 : xe_code 28 31 = some (.iastore, []) := kg_28_0 (i := 19) rfl
theorem kc_28_32 : xe_code 28 32 = some (.iload_n 2, []) := kg_28_0 (i := 20) rfl
theorem kc_28_33 : xe_code 28 33 = some (.ireturn, []) := kg_28_0 (i := 21) rfl
theorem kc_29_0 : xe_code 29 0 = some (.aload_n 0, []) := kg_29_0 (i := 0) rfl
theorem kc_29_1 : xe_code 29 1 = some (.iconst 0, []) := kg_29_0 (i := 1) rfl
theorem kc_29_2 : xe_code 29 2 = some (.putfield 169, [12, 0, 947]) := kg_29_0 (i := 2) rfl
theorem kc_29_5 : xe_code 29 5 = some (.iload_n 1, []) := kg_29_0 (i := 3) rfl
theorem kc_29_6 : xe_code 29 6 = some (.invokestatic 185, [10, 1, 1145, 12]) := kg_29_0 (i := 4) rfl
theorem kc_29_9 : xe_code 29 9 = some (.ifCond .eq 12, [21]) := kg_29_0 (i := 5) rfl
theorem kc_29_12 : xe_code 29 12 = some (.aload_n 0, []) := kg_29_0 (i := 6) rfl
theorem kc_29_13 : xe_code 29 13 = some (.getfield 25, [12, 7, 954]) := kg_29_0 (i := 7) rfl
theorem kc_29_16 : xe_code 29 16 = some (.iload_n 1, []) := kg_29_0 (i := 8) rfl
theorem kc_29_17 : xe_code 29 17 = some (.iaload, []) := kg_29_0 (i := 9) rfl
theorem kc_29_18 : xe_code 29 18 = some (.goto 8, [26]) := kg_29_0 (i := 10) rfl
theorem kc_29_21 : xe_code 29 21 = some (.aload_n 0, []) := kg_29_0 (i := 11) rfl
theorem kc_29_22 : xe_code 29 22 = some (.iconst (-1), []) := kg_29_0 (i := 12) rfl
theorem kc_29_23 : xe_code 29 23 = some (.invokevirtual 188, [12, 1, 1151, 12]) := kg_29_0 (i := 13) rfl
theorem kc_29_26 : xe_code 29 26 = some (.ireturn, []) := kg_29_0 (i := 14) rfl
theorem kc_30_0 : xe_code 30 0 = some (.aload_n 0, []) := kg_30_0 (i := 0) rfl
theorem kc_30_1 : xe_code 30 1 = some (.iconst 0, []) := kg_30_0 (i := 1) rfl
theorem kc_30_2 : xe_code 30 2 = some (.putfield 169, [12, 0, 947]) := kg_30_0 (i := 2) rfl
theorem kc_30_5 : xe_code 30 5 = some (.aload_n 0, []) := kg_30_0 (i := 3) rfl
theorem kc_30_6 : xe_code 30 6 = some (.iload_n 1, []) := kg_30_0 (i := 4) rfl
theorem kc_30_7 : xe_code 30 7 = some (.invokevirtual 219, [31, 1, 1227, 12]) := kg_30_0 (i := 5) rfl
theorem kc_30_10 : xe_code 30 10 = some (.ifCond .ne 9, [19]) := kg_30_0 (i := 6) rfl
theorem kc_30_13 : xe_code 30 13 = some (.aload_n 0, []) := kg_30_0 (i := 7) rfl
theorem kc_30_14 : xe_code 30 14 = some (.iconst (-1), []) := kg_30_0 (i := 8) rfl
theorem kc_30_15 : xe_code 30 15 = some (.invokevirtual 188, [12, 1, 1151, 12]) := kg_30_0 (i := 9) rfl
theorem kc_30_18 : xe_code 30 18 = some (.ireturn, []) := kg_30_0 (i := 10) rfl
theorem kc_30_19 : xe_code 30 19 = some (.iload_n 2, []) := kg_30_0 (i := 11) rfl
theorem kc_30_20 : xe_code 30 20 = some (.aload_n 0, []) := kg_30_0 (i := 12) rfl
theorem kc_30_21 : xe_code 30 21 = some (.getfield 213, [12, 1, 948]) := kg_30_0 (i := 13) rfl
theorem kc_30_24 : xe_code 30 24 = some (.if_icmp .gt 25, [49]) := kg_30_0 (i := 14) rfl
theorem kc_30_27 : xe_code 30 27 = some (.aload_n 0, []) := kg_30_0 (i := 15) rfl
theorem kc_30_28 : xe_code 30 28 = some (.getfield 222, [12, 18, 965]) := kg_30_0 (i := 16) rfl
theorem kc_30_31 : xe_code 30 31 = some (.ifCond .le 25, [56]) := kg_30_0 (i := 17) rfl
theorem kc_30_34 : xe_code 30 34 = some (.iload_n 2, []) := kg_30_0 (i := 18) rfl
theorem kc_30_35 : xe_code 30 35 = some (.aload_n 0, []) := kg_30_0 (i := 19) rfl
theorem kc_30_36 : xe_code 30 36 = some (.getfield 63, [12, 20, 967]) := kg_30_0 (i := 20) rfl
theorem kc_30_39 : xe_code 30 39 = some (.aload_n 0, []) := kg_30_0 (i := 21) rfl
theorem kc_30_40 : xe_code 30 40 = some (.getfield 222, [12, 18, 965]) := kg_30_0 (i := 22) rfl
theorem kc_30_43 : xe_code 30 43 = some (.iconst 1, []) := kg_30_0 (i := 23) rfl
theorem kc_30_44 : xe_code 30 44 = some (.isub, []) := kg_30_0 (i := 24) rfl
theorem kc_30_45 : xe_code 30 45 = some (.iaload, []) := kg_30_0 (i := 25) rfl
theorem kc_30_46 : xe_code 30 46 = some (.if_icmp .ge 10, [56]) := kg_30_0 (i := 26) rfl
theorem kc_30_49 : xe_code 30 49 = some (.aload_n 0, []) := kg_30_0 (i := 27) rfl
theorem kc_30_50 : xe_code 30 50 = some (.bipush (-3), []) := kg_30_0 (i := 28) rfl
theorem kc_30_52 : xe_code 30 52 = some (.invokevirtual 188, [12, 1, 1151, 12]) := kg_30_0 (i := 29) rfl
theorem kc_30_55 : xe_code 30 55 = some (.ireturn, []) := kg_30_0 (i := 30) rfl
theorem kc_30_56 : xe_code 30 56 = some (.iload_n 2, []) := kg_30_0 (i := 31) rfl
theorem kc_30_57 : xe_code 30 57 = some (.ifCond .lt 12, [69]) := kg_30_0 (i := 32) rfl
theorem kc_30_60 : xe_code 30 60 = some (.iload_n 3, []) := kg_30_0 (i := 33) rfl
theorem kc_30_61 : xe_code 30 61 = some (.ifCond .lt 8, [69]) := kg_30_0 (i := 34) rfl
theorem kc_30_64 : xe_code 30 64 = some (.iload 4, []) := kg_30_0 (i := 35) rfl
theorem kc_30_66 : xe_code 30 66 = some (.ifCond .ge 10, [76]) := kg_30_0 (i := 36) rfl
theorem kc_30_69 : xe_code 30 69 = some (.aload_n 0, []) := kg_30_0 (i := 37) rfl
theorem kc_30_70 : xe_code 30 70 = some (.bipush (-4), []) := kg_30_0 (i := 38) rfl
theorem kc_30_72 : xe_code 30 72 = some (.invokevirtual 188, [12, 1, 1151, 12]) := kg_30_0 (i := 39) rfl
theorem kc_30_75 : xe_code 30 75 = some (.ireturn, []) := kg_30_0 (i := 40) rfl
theorem kc_30_76 : xe_code 30 76 = some (.iload_n 3, []) := kg_30_0 (i := 41) rfl
theorem kc_30_77 : xe_code 30 77 = some (.ldc 192, [99999, 1155]) := kg_30_0 (i := 42) rfl
theorem kc_30_79 : xe_code 30 79 = some (.if_icmp .gt 20, [99]) := kg_30_0 (i := 43) rfl
theorem kc_30_82 : xe_code 30 82 = some (.iload 4, []) := kg_30_0 (i := 44) rfl
theorem kc_30_84 : xe_code 30 84 = some (.sipush 999, []) := kg_30_0 (i := 45) rfl
theorem kc_30_87 : xe_code 30 87 = some (.if_icmp .gt 12, [99]) := kg_30_0 (i := 46) rfl
theorem kc_30_90 : xe_code 30 90 = some (.aload_n 0, []) := kg_30_0 (i := 47) rfl
theorem kc_30_91 : xe_code 30 91 = some (.getfield 222, [12, 18, 965]) := kg_30_1 (i := 0) rfl
theorem kc_30_94 : xe_code 30 94 = some (.bipush 60, []) := kg_30_1 (i := 1) rfl
theorem kc_30_96 : xe_code 30 96 = some (.if_icmp .ne 10, [106]) := kg_30_1 (i := 2) rfl
theorem kc_30_99 : xe_code 30 99 = some (.aload_n 0, []) := kg_30_1 (i := 3) rfl
theorem kc_30_100 : xe_code 30 100 = some (.bipush (-6), []) := kg_30_1 (i := 4) rfl
theorem kc_30_102 : xe_code 30 102 = some (.invokevirtual 188, [12, 1, 1151, 12]) := kg_30_1 (i := 5) rfl
theorem kc_30_105 : xe_code 30 105 = some (.ireturn, []) := kg_30_1 (i := 6) rfl
theorem kc_30_106 : xe_code 30 106 = some (.aload_n 0, []) := kg_30_1 (i := 7) rfl
theorem kc_30_107 : xe_code 30 107 = some (.getfield 60, [12, 19, 966]) := kg_30_1 (i := 8) rfl
theorem kc_30_110 : xe_code 30 110 = some (.aload_n 0, []) := kg_30_1 (i := 9) rfl
theorem kc_30_111 : xe_code 30 111 = some (.getfield 222, [12, 18, 965]) := kg_30_1 (i := 10) rfl
theorem kc_30_114 : xe_code 30 114 = some (.iload_n 1, []) := kg_30_1 (i := 11) rfl
theorem kc_30_115 : xe_code 30 115 = some (.iastore, []) := kg_30_1 (i := 12) rfl
theorem kc_30_116 : xe_code 30 116 = some (.aload_n 0, []) := kg_30_1 (i := 13) rfl
theorem kc_30_117 : xe_code 30 117 = some (.getfield 63, [12, 20, 967]) := kg_30_1 (i := 14) rfl
theorem kc_30_120 : xe_code 30 120 = some (.aload_n 0, []) := kg_30_1 (i := 15) rfl
theorem kc_30_121 : xe_code 30 121 = some (.getfield 222, [12, 18, 965]) := kg_30_1 (i := 16) rfl
theorem kc_30_124 : xe_code 30 124 = some (.iload_n 2, []) := kg_30_1 (i := 17) rfl
theorem kc_30_125 : xe_code 30 125 = some (.iastore, []) := kg_30_1 (i := 18) rfl
theorem kc_30_126 : xe_code 30 126 = some (.aload_n 0, []) := kg_30_1 (i := 19) rfl
theorem kc_30_127 : xe_code 30 127 = some (.getfield 66, [12, 21, 968]) := kg_30_1 (i := 20) rfl
theorem kc_30_130 : xe_code 30 130 = some (.aload_n 0, []) := kg_30_1 (i := 21) rfl
theorem kc_30_131 : xe_code 30 131 = some (.getfield 222, [12, 18, 965]) := kg_30_1 (i := 22) rfl
theorem kc_30_134 : xe_code 30 134 = some (.iload_n 3, []) := kg_30_1 (i := 23) rfl
theorem kc_30_135 : xe_code 30 135 = some (.iastore, []) := kg_30_1 (i := 24) rfl
theorem kc_30_136 : xe_code 30 136 = some (.aload_n 0, []) := kg_30_1 (i := 25) rfl
theorem kc_30_137 : xe_code 30 137 = some (.getfield 69, [12, 22, 969]) := kg_30_1 (i := 26) rfl
theorem kc_30_140 : xe_code 30 140 = some (.aload_n 0, []) := kg_30_1 (i := 27) rfl
theorem kc_30_141 : xe_code 30 141 = some (.getfield 222, [12, 18, 965]) := kg_30_1 (i := 28) rfl
theorem kc_30_144 : xe_code 30 144 = some (.iload 4, []) := kg_30_1 (i := 29) rfl
theorem kc_30_146 : xe_code 30 146 = some (.iastore, []) := kg_30_1 (i := 30) rfl
theorem kc_30_147 : xe_code 30 147 = some (.aload_n 0, []) := kg_30_1 (i := 31) rfl
theorem kc_30_148 : xe_code 30 148 = some (.dup, []) := kg_30_1 (i := 32) rfl
theorem kc_30_149 : xe_code 30 149 = some (.getfield 222, [12, 18, 965]) := kg_30_1 (i := 33) rfl
theorem kc_30_152 : xe_code 30 152 = some (.iconst 1, []) := kg_30_1 (i := 34) rfl
theorem kc_30_153 : xe_code 30 153 = some (.iadd, []) := kg_30_1 (i := 35) rfl
theorem kc_30_154 : xe_code 30 154 = some (.putfield 222, [12, 18, 965]) := kg_30_1 (i := 36) rfl
theorem kc_30_157 : xe_code 30 157 = some (.aload_n 0, []) := kg_30_1 (i := 37) rfl
theorem kc_30_158 : xe_code 30 158 = some (.iconst 0, []) := kg_30_1 (i := 38) rfl
theorem kc_30_159 : xe_code 30 159 = some (.putfield 181, [12, 41, 988]) := kg_30_1 (i := 39) rfl
theorem kc_30_162 : xe_code 30 162 = some (.aload_n 0, []) := kg_30_1 (i := 40) rfl
theorem kc_30_163 : xe_code 30 163 = some (.getfield 222, [12, 18, 965]) := kg_30_1 (i := 41) rfl
theorem kc_30_166 : xe_code 30 166 = some (.iconst 1, []) := kg_30_1 (i := 42) rfl
theorem kc_30_167 : xe_code 30 167 = some (.isub, []) := kg_30_1 (i := 43) rfl
theorem kc_30_168 : xe_code 30 168 = some (.ireturn, []) := kg_30_1 (i := 44) rfl
theorem kc_31_0 : xe_code 31 0 = some (.iload_n 1, []) := kg_31_0 (i := 0) rfl
theorem kc_31_1 : xe_code 31 1 = some (.invokestatic 177, [24, 1, 1200, 12]) := kg_31_0 (i := 1) rfl
theorem kc_31_4 : xe_code 31 4 = some (.ifCond .eq 16, [20]) := kg_31_0 (i := 2) rfl
theorem kc_31_7 : xe_code 31 7 = some (.aload_n 0, []) := kg_31_0 (i := 3) rfl
theorem kc_31_8 : xe_code 31 8 = some (.getfield 37, [12, 11, 958]) := kg_31_0 (i := 4) rfl
theorem kc_31_11 : xe_code 31 11 = some (.iload_n 1, []) := kg_31_0 (i := 5) rfl
theorem kc_31_12 : xe_code 31 12 = some (.iaload, []) := kg_31_0 (i := 6) rfl
theorem kc_31_13 : xe_code 31 13 = some (.ifCond .lt 7, [20]) := kg_31_0 (i := 7) rfl
theorem kc_31_16 : xe_code 31 16 = some (.iconst 1, []) := kg_31_0 (i := 8) rfl
theorem kc_31_17 : xe_code 31 17 = some (.goto 4, [21]) := kg_31_0 (i := 9) rfl
theorem kc_31_20 : xe_code 31 20 = some (.iconst 0, []) := kg_31_0 (i := 10) rfl
theorem kc_31_21 : xe_code 31 21 = some (.ireturn, []) := kg_31_0 (i := 11) rfl
theorem kc_32_0 : xe_code 32 0 = some (.aload_n 0, []) := kg_32_0 (i := 0) rfl
theorem kc_32_1 : xe_code 32 1 = some (.iconst 0, []) := kg_32_0 (i := 1) rfl
theorem kc_32_2 : xe_code 32 2 = some (.putfield 169, [12, 0, 947]) := kg_32_0 (i := 2) rfl
theorem kc_32_5 : xe_code 32 5 = some (.iload_n 1, []) := kg_32_0 (i := 3) rfl
theorem kc_32_6 : xe_code 32 6 = some (.iconst 0, []) := kg_32_0 (i := 4) rfl
theorem kc_32_7 : xe_code 32 7 = some (.iconst 3, []) := kg_32_0 (i := 5) rfl
theorem kc_32_8 : xe_code 32 8 = some (.invokestatic 173, [11, 3, 1148, 12]) := kg_32_0 (i := 6) rfl
theorem kc_32_11 : xe_code 32 11 = some (.ifCond .ne 10, [21]) := kg_32_0 (i := 7) rfl
theorem kc_32_14 : xe_code 32 14 = some (.aload_n 0, []) := kg_32_0 (i := 8) rfl
theorem kc_32_15 : xe_code 32 15 = some (.bipush (-2), []) := kg_32_0 (i := 9) rfl
theorem kc_32_17 : xe_code 32 17 = some (.invokevirtual 188, [12, 1, 1151, 12]) := kg_32_0 (i := 10) rfl
theorem kc_32_20 : xe_code 32 20 = some (.ireturn, []) := kg_32_0 (i := 11) rfl
theorem kc_32_21 : xe_code 32 21 = some (.iload_n 1, []) := kg_32_0 (i := 12) rfl
theorem kc_32_22 : xe_code 32 22 = some (.iconst 3, []) := kg_32_0 (i := 13) rfl
theorem kc_32_23 : xe_code 32 23 = some (.if_icmp .ne 13, [36]) := kg_32_0 (i := 14) rfl
theorem kc_32_26 : xe_code 32 26 = some (.iload_n 2, []) := kg_32_0 (i := 15) rfl
theorem kc_32_27 : xe_code 32 27 = some (.invokestatic 185, [10, 1, 1145, 12]) := kg_32_0 (i := 16) rfl
theorem kc_32_30 : xe_code 32 30 = some (.ifCond .ne 33, [63]) := kg_32_0 (i := 17) rfl
theorem kc_32_33 : xe_code 32 33 = some (.goto 24, [57]) := kg_32_0 (i := 18) rfl
theorem kc_32_36 : xe_code 32 36 = some (.aload_n 0, []) := kg_32_0 (i := 19) rfl
theorem kc_32_37 : xe_code 32 37 = some (.iload_n 2, []) := kg_32_0 (i := 20) rfl
theorem kc_32_38 : xe_code 32 38 = some (.invokevirtual 219, [31, 1, 1227, 12]) := kg_32_0 (i := 21) rfl
theorem kc_32_41 : xe_code 32 41 = some (.ifCond .eq 16, [57]) := kg_32_0 (i := 22) rfl
theorem kc_32_44 : xe_code 32 44 = some (.iload_n 1, []) := kg_32_0 (i := 23) rfl
theorem kc_32_45 : xe_code 32 45 = some (.ifCond .ne 18, [63]) := kg_32_0 (i := 24) rfl
theorem kc_32_48 : xe_code 32 48 = some (.aload_n 0, []) := kg_32_0 (i := 25) rfl
theorem kc_32_49 : xe_code 32 49 = some (.getfield 43, [12, 13, 960]) := kg_32_0 (i := 26) rfl
theorem kc_32_52 : xe_code 32 52 = some (.iload_n 2, []) := kg_32_0 (i := 27) rfl
theorem kc_32_53 : xe_code 32 53 = some (.baload, []) := kg_32_0 (i := 28) rfl
theorem kc_32_54 : xe_code 32 54 = some (.ifCond .ne 9, [63]) := kg_32_0 (i := 29) rfl
theorem kc_32_57 : xe_code 32 57 = some (.aload_n 0, []) := kg_32_0 (i := 30) rfl
theorem kc_32_58 : xe_code 32 58 = some (.iconst (-1), []) := kg_32_0 (i := 31) rfl
theorem kc_32_59 : xe_code 32 59 = some (.invokevirtual 188, [12, 1, 1151, 12]) := kg_32_0 (i := 32) rfl
theorem kc_32_62 : xe_code 32 62 = some (.ireturn, []) := kg_32_0 (i := 33) rfl
theorem kc_32_63 : xe_code 32 63 = some (.iload_n 3, []) := kg_32_0 (i := 34) rfl
theorem kc_32_64 : xe_code 32 64 = some (.iconst 1, []) := kg_32_0 (i := 35) rfl
theorem kc_32_65 : xe_code 32 65 = some (.if_icmp .lt 8, [73]) := kg_32_0 (i := 36) rfl
theorem kc_32_68 : xe_code 32 68 = some (.iload 4, []) := kg_32_0 (i := 37) rfl
theorem kc_32_70 : xe_code 32 70 = some (.ifCond .ge 10, [80]) := kg_32_0 (i := 38) rfl
theorem kc_32_73 : xe_code 32 73 = some (.aload_n 0, []) := kg_32_0 (i := 39) rfl
theorem kc_32_74 : xe_code 32 74 = some (.bipush (-4), []) := kg_32_0 (i := 40) rfl
theorem kc_32_76 : xe_code 32 76 = some (.invokevirtual 188, [12, 1, 1151, 12]) := kg_32_0 (i := 41) rfl
theorem kc_32_79 : xe_code 32 79 = some (.ireturn, []) := kg_32_0 (i := 42) rfl
theorem kc_32_80 : xe_code 32 80 = some (.iload_n 3, []) := kg_32_0 (i := 43) rfl
theorem kc_32_81 : xe_code 32 81 = some (.bipush 99, []) := kg_32_0 (i := 44) rfl
theorem kc_32_83 : xe_code 32 83 = some (.if_icmp .gt 20, [103]) := kg_32_0 (i := 45) rfl
theorem kc_32_86 : xe_code 32 86 = some (.iload 4, []) := kg_32_0 (i := 46) rfl
theorem kc_32_88 : xe_code 32 88 = some (.sipush 600, []) := kg_32_0 (i := 47) rfl
theorem kc_32_91 : xe_code 32 91 = some (.if_icmp .gt 12, [103]) := kg_32_1 (i := 0) rfl
theorem kc_32_94 : xe_code 32 94 = some (.aload_n 0, []) := kg_32_1 (i := 1) rfl
theorem kc_32_95 : xe_code 32 95 = some (.getfield 225, [12, 23, 970]) := kg_32_1 (i := 2) rfl
theorem kc_32_98 : xe_code 32 98 = some (.bipush 10, []) := kg_32_1 (i := 3) rfl
theorem kc_32_100 : xe_code 32 100 = some (.if_icmp .ne 10, [110]) := kg_32_1 (i := 4) rfl
theorem kc_32_103 : xe_code 32 103 = some (.aload_n 0, []) := kg_32_1 (i := 5) rfl
theorem kc_32_104 : xe_code 32 104 = some (.bipush (-6), []) := kg_32_1 (i := 6) rfl
theorem kc_32_106 : xe_code 32 106 = some (.invokevirtual 188, [12, 1, 1151, 12]) := kg_32_1 (i := 7) rfl
theorem kc_32_109 : xe_code 32 109 = some (.ireturn, []) := kg_32_1 (i := 8) rfl
theorem kc_32_110 : xe_code 32 110 = some (.aload_n 0, []) := kg_32_1 (i := 9) rfl
theorem kc_32_111 : xe_code 32 111 = some (.getfield 72, [12, 24, 971]) := kg_32_1 (i := 10) rfl
theorem kc_32_114 : xe_code 32 114 = some (.aload_n 0, []) := kg_32_1 (i := 11) rfl
theorem kc_32_115 : xe_code 32 115 = some (.getfield 225, [12, 23, 970]) := kg_32_1 (i := 12) rfl
theorem kc_32_118 : xe_code 32 118 = some (.iload_n 1, []) := kg_32_1 (i := 13) rfl
theorem kc_32_119 : xe_code 32 119 = some (.iastore, []) := kg_32_1 (i := 14) rfl
theorem kc_32_120 : xe_code 32 120 = some (.aload_n 0, []) := kg_32_1 (i := 15) rfl
theorem kc_32_121 : xe_code 32 121 = some (.getfield 75, [12, 25, 972]) := kg_32_1 (i := 16) rfl
theorem kc_32_124 : xe_code 32 124 = some (.aload_n 0, []) := kg_32_1 (i := 17) rfl
theorem kc_32_125 : xe_code 32 125 = some (.getfield 225, [12, 23, 970]) := kg_32_1 (i := 18) rfl
theorem kc_32_128 : xe_code 32 128 = some (.iload_n 2, []) := kg_32_1 (i := 19) rfl
theorem kc_32_129 : xe_code 32 129 = some (.iastore, []) := kg_32_1 (i := 20) rfl
theorem kc_32_130 : xe_code 32 130 = some (.aload_n 0, []) := kg_32_1 (i := 21) rfl
theorem kc_32_131 : xe_code 32 131 = some (.getfield 78, [12, 26, 973]) := kg_32_1 (i := 22) rfl
theorem kc_32_134 : xe_code 32 134 = some (.aload_n 0, []) := kg_32_1 (i := 23) rfl
theorem kc_32_135 : xe_code 32 135 = some (.getfield 225, [12, 23, 970]) := kg_32_1 (i := 24) rfl
theorem kc_32_138 : xe_code 32 138 = some (.iload_n 3, []) := kg_32_1 (i := 25) rfl
theorem kc_32_139 : xe_code 32 139 = some (.iastore, []) := kg_32_1 (i := 26) rfl
theorem kc_32_140 : xe_code 32 140 = some (.aload_n 0, []) := kg_32_1 (i := 27) rfl
theorem kc_32_141 : xe_code 32 141 = some (.getfield 81, [12, 27, 974]) := kg_32_1 (i := 28) rfl
theorem kc_32_144 : xe_code 32 144 = some (.aload_n 0, []) := kg_32_1 (i := 29) rfl
theorem kc_32_145 : xe_code 32 145 = some (.getfield 225, [12, 23, 970]) := kg_32_1 (i := 30) rfl
theorem kc_32_148 : xe_code 32 148 = some (.iload 4, []) := kg_32_1 (i := 31) rfl
theorem kc_32_150 : xe_code 32 150 = some (.iastore, []) := kg_32_1 (i := 32) rfl
theorem kc_32_151 : xe_code 32 151 = some (.aload_n 0, []) := kg_32_1 (i := 33) rfl
theorem kc_32_152 : xe_code 32 152 = some (.getfield 84, [12, 28, 975]) := kg_32_1 (i := 34) rfl
theorem kc_32_155 : xe_code 32 155 = some (.aload_n 0, []) := kg_32_1 (i := 35) rfl
theorem kc_32_156 : xe_code 32 156 = some (.getfield 225, [12, 23, 970]) := kg_32_1 (i := 36) rfl
theorem kc_32_159 : xe_code 32 159 = some (.iconst 0, []) := kg_32_1 (i := 37) rfl
theorem kc_32_160 : xe_code 32 160 = some (.bastore, []) := kg_32_1 (i := 38) rfl
theorem kc_32_161 : xe_code 32 161 = some (.aload_n 0, []) := kg_32_1 (i := 39) rfl
theorem kc_32_162 : xe_code 32 162 = some (.dup, []) := kg_32_1 (i := 40) rfl
theorem kc_32_163 : xe_code 32 163 = some (.getfield 225, [12, 23, 970]) := kg_32_1 (i := 41) rfl
theorem kc_32_166 : xe_code 32 166 = some (.iconst 1, []) := kg_32_1 (i := 42) rfl
theorem kc_32_167 : xe_code 32 167 = some (.iadd, []) := kg_32_1 (i := 43) rfl
theorem kc_32_168 : xe_code 32 168 = some (.putfield 225, [12, 23, 970]) := kg_32_1 (i := 44) rfl
theorem kc_32_171 : xe_code 32 171 = some (.aload_n 0, []) := kg_32_1 (i := 45) rfl
theorem kc_32_172 : xe_code 32 172 = some (.iconst 0, []) := kg_32_1 (i := 46) rfl
theorem kc_32_173 : xe_code 32 173 = some (.putfield 181, [12, 41, 988]) := kg_32_1 (i := 47) rfl
theorem kc_32_176 : xe_code 32 176 = some (.aload_n 0, []) := kg_32_2 (i := 0) rfl
theorem kc_32_177 : xe_code 32 177 = some (.getfield 225, [12, 23, 970]) := kg_32_2 (i := 1) rfl
theorem kc_32_180 : xe_code 32 180 = some (.iconst 1, []) := kg_32_2 (i := 2) rfl
theorem kc_32_181 : xe_code 32 181 = some (.isub, []) := kg_32_2 (i := 3) rfl
theorem kc_32_182 : xe_code 32 182 = some (.ireturn, []) := kg_32_2 (i := 4) rfl
theorem kc_33_0 : xe_code 33 0 = some (.aload_n 0, []) := kg_33_0 (i := 0) rfl
theorem kc_33_1 : xe_code 33 1 = some (.iconst 0, []) := kg_33_0 (i := 1) rfl
theorem kc_33_2 : xe_code 33 2 = some (.putfield 169, [12, 0, 947]) := kg_33_0 (i := 2) rfl
theorem kc_33_5 : xe_code 33 5 = some (.iload_n 1, []) := kg_33_0 (i := 3) rfl
theorem kc_33_6 : xe_code 33 6 = some (.iconst 0, []) := kg_33_0 (i := 4) rfl
theorem kc_33_7 : xe_code 33 7 = some (.aload_n 0, []) := kg_33_0 (i := 5) rfl
theorem kc_33_8 : xe_code 33 8 = some (.getfield 225, [12, 23, 970]) := kg_33_0 (i := 6) rfl
theorem kc_33_11 : xe_code 33 11 = some (.iconst 1, []) := kg_33_0 (i := 7) rfl
theorem kc_33_12 : xe_code 33 12 = some (.isub, []) := kg_33_0 (i := 8) rfl
theorem kc_33_13 : xe_code 33 13 = some (.invokestatic 173, [11, 3, 1148, 12]) := kg_33_0 (i := 9) rfl
theorem kc_33_16 : xe_code 33 16 = some (.ifCond .ne 9, [25]) := kg_33_0 (i := 10) rfl
theorem kc_33_19 : xe_code 33 19 = some (.aload_n 0, []) := kg_33_0 (i := 11) rfl
theorem kc_33_20 : xe_code 33 20 = some (.iconst (-1), []) := kg_33_0 (i := 12) rfl
theorem kc_33_21 : xe_code 33 21 = some (.invokevirtual 188, [12, 1, 1151, 12]) := kg_33_0 (i := 13) rfl
theorem kc_33_24 : xe_code 33 24 = some (.ireturn, []) := kg_33_0 (i := 14) rfl
theorem kc_33_25 : xe_code 33 25 = some (.aload_n 0, []) := kg_33_0 (i := 15) rfl
theorem kc_33_26 : xe_code 33 26 = some (.getfield 84, [12, 28, 975]) := kg_33_0 (i := 16) rfl
theorem kc_33_29 : xe_code 33 29 = some (.iload_n 1, []) := kg_33_0 (i := 17) rfl
theorem kc_33_30 : xe_code 33 30 = some (.baload, []) := kg_33_0 (i := 18) rfl
theorem kc_33_31 : xe_code 33 31 = some (.istore_n 3, []) := kg_33_0 (i := 19) rfl
theorem kc_33_32 : xe_code 33 32 = some (.aload_n 0, []) := kg_33_0 (i := 20) rfl
theorem kc_33_33 : xe_code 33 33 = some (.getfield 84, [12, 28, 975]) := kg_33_0 (i := 21) rfl
theorem kc_33_36 : xe_code 33 36 = some (.iload_n 1, []) := kg_33_0 (i := 22) rfl
theorem kc_33_37 : xe_code 33 37 = some (.iload_n 2, []) := kg_33_0 (i := 23) rfl
theorem kc_33_38 : xe_code 33 38 = some (.bastore, []) := kg_33_0 (i := 24) rfl
theorem kc_33_39 : xe_code 33 39 = some (.iload_n 3, []) := kg_33_0 (i := 25) rfl
theorem kc_33_40 : xe_code 33 40 = some (.iload_n 2, []) := kg_33_0 (i := 26) rfl
theorem kc_33_41 : xe_code 33 41 = some (.if_icmp .ne 7, [48]) := kg_33_0 (i := 27) rfl
theorem kc_33_44 : xe_code 33 44 = some (.iconst 0, []) := kg_33_0 (i := 28) rfl
theorem kc_33_45 : xe_code 33 45 = some (.goto 4, [49]) := kg_33_0 (i := 29) rfl
theorem kc_33_48 : xe_code 33 48 = some (.iconst 1, []) := kg_33_0 (i := 30) rfl
theorem kc_33_49 : xe_code 33 49 = some (.ireturn, []) := kg_33_0 (i := 31) rfl
theorem kc_34_0 : xe_code 34 0 = some (.aload_n 0, []) := kg_34_0 (i := 0) rfl
theorem kc_34_1 : xe_code 34 1 = some (.iconst 0, []) := kg_34_0 (i := 1) rfl
theorem kc_34_2 : xe_code 34 2 = some (.putfield 169, [12, 0, 947]) := kg_34_0 (i := 2) rfl
theorem kc_34_5 : xe_code 34 5 = some (.iload_n 1, []) := kg_34_0 (i := 3) rfl
theorem kc_34_6 : xe_code 34 6 = some (.iconst 1, []) := kg_34_0 (i := 4) rfl
theorem kc_34_7 : xe_code 34 7 = some (.if_icmp .ge 10, [17]) := kg_34_0 (i := 5) rfl
theorem kc_34_10 : xe_code 34 10 = some (.aload_n 0, []) := kg_34_0 (i := 6) rfl
theorem kc_34_11 : xe_code 34 11 = some (.bipush (-4), []) := kg_34_0 (i := 7) rfl
theorem kc_34_13 : xe_code 34 13 = some (.invokevirtual 188, [12, 1, 1151, 12]) := kg_34_0 (i := 8) rfl
theorem kc_34_16 : xe_code 34 16 = some (.ireturn, []) := kg_34_0 (i := 9) rfl
theorem kc_34_17 : xe_code 34 17 = some (.iload_n 1, []) := kg_34_0 (i := 10) rfl
theorem kc_34_18 : xe_code 34 18 = some (.sipush 600, []) := kg_34_0 (i := 11) rfl
theorem kc_34_21 : xe_code 34 21 = some (.aload_n 0, []) := kg_34_0 (i := 12) rfl
theorem kc_34_22 : xe_code 34 22 = some (.getfield 213, [12, 1, 948]) := kg_34_0 (i := 13) rfl
theorem kc_34_25 : xe_code 34 25 = some (.isub, []) := kg_34_0 (i := 14) rfl
theorem kc_34_26 : xe_code 34 26 = some (.if_icmp .le 10, [36]) := kg_34_0 (i := 15) rfl
theorem kc_34_29 : xe_code 34 29 = some (.aload_n 0, []) := kg_34_0 (i := 16) rfl
theorem kc_34_30 : xe_code 34 30 = some (.bipush (-6), []) := kg_34_0 (i := 17) rfl
theorem kc_34_32 : xe_code 34 32 = some (.invokevirtual 188, [12, 1, 1151, 12]) := kg_34_0 (i := 18) rfl
theorem kc_34_35 : xe_code 34 35 = some (.ireturn, []) := kg_34_0 (i := 19) rfl
theorem kc_34_36 : xe_code 34 36 = some (.iconst 0, []) := kg_34_0 (i := 20) rfl
theorem kc_34_37 : xe_code 34 37 = some (.istore_n 2, []) := kg_34_0 (i := 21) rfl
theorem kc_34_38 : xe_code 34 38 = some (.iload_n 2, []) := kg_34_0 (i := 22) rfl
theorem kc_34_39 : xe_code 34 39 = some (.iload_n 1, []) := kg_34_0 (i := 23) rfl
theorem kc_34_40 : xe_code 34 40 = some (.if_icmp .ge 13, [53]) := kg_34_0 (i := 24) rfl
theorem kc_34_43 : xe_code 34 43 = some (.aload_n 0, []) := kg_34_0 (i := 25) rfl
theorem kc_34_44 : xe_code 34 44 = some (.invokevirtual 256, [35, 0, 1243, 12]) := kg_34_0 (i := 26) rfl
theorem kc_34_47 : xe_code 34 47 = some (.iinc 2 1, []) := kg_34_0 (i := 27) rfl
theorem kc_34_50 : xe_code 34 50 = some (.goto (-12), [38]) := kg_34_0 (i := 28) rfl
theorem kc_34_53 : xe_code 34 53 = some (.aload_n 0, []) := kg_34_0 (i := 29) rfl
theorem kc_34_54 : xe_code 34 54 = some (.getfield 213, [12, 1, 948]) := kg_34_0 (i := 30) rfl
theorem kc_34_57 : xe_code 34 57 = some (.ireturn, []) := kg_34_0 (i := 31) rfl
theorem kc_35_0 : xe_code 35 0 = some (.iconst 0, []) := kg_35_0 (i := 0) rfl
theorem kc_35_1 : xe_code 35 1 = some (.istore_n 1, []) := kg_35_0 (i := 1) rfl
theorem kc_35_2 : xe_code 35 2 = some (.iload_n 1, []) := kg_35_0 (i := 2) rfl
theorem kc_35_3 : xe_code 35 3 = some (.aload_n 0, []) := kg_35_0 (i := 3) rfl
theorem kc_35_4 : xe_code 35 4 = some (.getfield 249, [12, 34, 981]) := kg_35_0 (i := 4) rfl
theorem kc_35_7 : xe_code 35 7 = some (.if_icmp .ge 84, [91]) := kg_35_0 (i := 5) rfl
theorem kc_35_10 : xe_code 35 10 = some (.aload_n 0, []) := kg_35_0 (i := 6) rfl
theorem kc_35_11 : xe_code 35 11 = some (.getfield 105, [12, 38, 985]) := kg_35_0 (i := 7) rfl
theorem kc_35_14 : xe_code 35 14 = some (.iload_n 1, []) := kg_35_0 (i := 8) rfl
theorem kc_35_15 : xe_code 35 15 = some (.iaload, []) := kg_35_0 (i := 9) rfl
theorem kc_35_16 : xe_code 35 16 = some (.aload_n 0, []) := kg_35_0 (i := 10) rfl
theorem kc_35_17 : xe_code 35 17 = some (.getfield 213, [12, 1, 948]) := kg_35_0 (i := 11) rfl
theorem kc_35_20 : xe_code 35 20 = some (.if_icmp .ne 65, [85]) := kg_35_0 (i := 12) rfl
theorem kc_35_23 : xe_code 35 23 = some (.aload_n 0, []) := kg_35_0 (i := 13) rfl
theorem kc_35_24 : xe_code 35 24 = some (.getfield 99, [12, 36, 983]) := kg_35_0 (i := 14) rfl
theorem kc_35_27 : xe_code 35 27 = some (.iload_n 1, []) := kg_35_0 (i := 15) rfl
theorem kc_35_28 : xe_code 35 28 = some (.iaload, []) := kg_35_0 (i := 16) rfl
theorem kc_35_29 : xe_code 35 29 = some (.ifCond .ne 7, [36]) := kg_35_0 (i := 17) rfl
theorem kc_35_32 : xe_code 35 32 = some (.iconst 4, []) := kg_35_0 (i := 18) rfl
theorem kc_35_33 : xe_code 35 33 = some (.goto 4, [37]) := kg_35_0 (i := 19) rfl
theorem kc_35_36 : xe_code 35 36 = some (.iconst 2, []) := kg_35_0 (i := 20) rfl
theorem kc_35_37 : xe_code 35 37 = some (.istore_n 2, []) := kg_35_0 (i := 21) rfl
theorem kc_35_38 : xe_code 35 38 = some (.aload_n 0, []) := kg_35_0 (i := 22) rfl
theorem kc_35_39 : xe_code 35 39 = some (.getfield 111, [12, 40, 987]) := kg_35_0 (i := 23) rfl
theorem kc_35_42 : xe_code 35 42 = some (.iload_n 1, []) := kg_35_0 (i := 24) rfl
theorem kc_35_43 : xe_code 35 43 = some (.aload_n 0, []) := kg_35_0 (i := 25) rfl
theorem kc_35_44 : xe_code 35 44 = some (.aload_n 0, []) := kg_35_0 (i := 26) rfl
theorem kc_35_45 : xe_code 35 45 = some (.getfield 96, [12, 35, 982]) := kg_35_0 (i := 27) rfl
theorem kc_35_48 : xe_code 35 48 = some (.iload_n 1, []) := kg_35_0 (i := 28) rfl
theorem kc_35_49 : xe_code 35 49 = some (.iaload, []) := kg_35_0 (i := 29) rfl
theorem kc_35_50 : xe_code 35 50 = some (.iload_n 2, []) := kg_35_0 (i := 30) rfl
theorem kc_35_51 : xe_code 35 51 = some (.invokevirtual 193, [13, 2, 1156, 12]) := kg_35_0 (i := 31) rfl
theorem kc_35_54 : xe_code 35 54 = some (.iastore, []) := kg_35_0 (i := 32) rfl
theorem kc_35_55 : xe_code 35 55 = some (.aload_n 0, []) := kg_35_0 (i := 33) rfl
theorem kc_35_56 : xe_code 35 56 = some (.aload_n 0, []) := kg_35_0 (i := 34) rfl
theorem kc_35_57 : xe_code 35 57 = some (.getfield 96, [12, 35, 982]) := kg_35_0 (i := 35) rfl
theorem kc_35_60 : xe_code 35 60 = some (.iload_n 1, []) := kg_35_0 (i := 36) rfl
theorem kc_35_61 : xe_code 35 61 = some (.iaload, []) := kg_35_0 (i := 37) rfl
theorem kc_35_62 : xe_code 35 62 = some (.iload_n 2, []) := kg_35_0 (i := 38) rfl
theorem kc_35_63 : xe_code 35 63 = some (.aload_n 0, []) := kg_35_0 (i := 39) rfl
theorem kc_35_64 : xe_code 35 64 = some (.getfield 99, [12, 36, 983]) := kg_35_0 (i := 40) rfl
theorem kc_35_67 : xe_code 35 67 = some (.iload_n 1, []) := kg_35_0 (i := 41) rfl
theorem kc_35_68 : xe_code 35 68 = some (.iaload, []) := kg_35_0 (i := 42) rfl
theorem kc_35_69 : xe_code 35 69 = some (.ifCond .ne 7, [76]) := kg_35_0 (i := 43) rfl
theorem kc_35_72 : xe_code 35 72 = some (.iconst 1, []) := kg_35_0 (i := 44) rfl
theorem kc_35_73 : xe_code 35 73 = some (.goto 9, [82]) := kg_35_0 (i := 45) rfl
theorem kc_35_76 : xe_code 35 76 = some (.aload_n 0, []) := kg_35_0 (i := 46) rfl
theorem kc_35_77 : xe_code 35 77 = some (.getfield 102, [12, 37, 984]) := kg_35_0 (i := 47) rfl
theorem kc_35_80 : xe_code 35 80 = some (.iload_n 1, []) := kg_35_1 (i := 0) rfl
theorem kc_35_81 : xe_code 35 81 = some (.iaload, []) := kg_35_1 (i := 1) rfl
theorem kc_35_82 : xe_code 35 82 = some (.invokevirtual 197, [14, 3, 1160, 12]) := kg_35_1 (i := 2) rfl
theorem kc_35_85 : xe_code 35 85 = some (.iinc 1 1, []) := kg_35_1 (i := 3) rfl
theorem kc_35_88 : xe_code 35 88 = some (.goto (-86), [2]) := kg_35_1 (i := 4) rfl
theorem kc_35_91 : xe_code 35 91 = some (.iconst 0, []) := kg_35_1 (i := 5) rfl
theorem kc_35_92 : xe_code 35 92 = some (.istore_n 1, []) := kg_35_1 (i := 6) rfl
theorem kc_35_93 : xe_code 35 93 = some (.iload_n 1, []) := kg_35_1 (i := 7) rfl
theorem kc_35_94 : xe_code 35 94 = some (.bipush 6, []) := kg_35_1 (i := 8) rfl
theorem kc_35_96 : xe_code 35 96 = some (.if_icmp .ge 21, [117]) := kg_35_1 (i := 9) rfl
theorem kc_35_99 : xe_code 35 99 = some (.aload_n 0, []) := kg_35_1 (i := 10) rfl
theorem kc_35_100 : xe_code 35 100 = some (.getfield 90, [12, 30, 977]) := kg_35_1 (i := 11) rfl
theorem kc_35_103 : xe_code 35 103 = some (.iload_n 1, []) := kg_35_1 (i := 12) rfl
theorem kc_35_104 : xe_code 35 104 = some (.aload_n 0, []) := kg_35_1 (i := 13) rfl
theorem kc_35_105 : xe_code 35 105 = some (.getfield 25, [12, 7, 954]) := kg_35_1 (i := 14) rfl
theorem kc_35_108 : xe_code 35 108 = some (.iload_n 1, []) := kg_35_1 (i := 15) rfl
theorem kc_35_109 : xe_code 35 109 = some (.iaload, []) := kg_35_1 (i := 16) rfl
theorem kc_35_110 : xe_code 35 110 = some (.iastore, []) := kg_35_1 (i := 17) rfl
theorem kc_35_111 : xe_code 35 111 = some (.iinc 1 1, []) := kg_35_1 (i := 18) rfl
theorem kc_35_114 : xe_code 35 114 = some (.goto (-21), [93]) := kg_35_1 (i := 19) rfl
theorem kc_35_117 : xe_code 35 117 = some (.iconst 0, []) := kg_35_1 (i := 20) rfl
theorem kc_35_118 : xe_code 35 118 = some (.istore_n 1, []) := kg_35_1 (i := 21) rfl
theorem kc_35_119 : xe_code 35 119 = some (.iload_n 1, []) := kg_35_1 (i := 22) rfl
theorem kc_35_120 : xe_code 35 120 = some (.bipush 12, []) := kg_35_1 (i := 23) rfl
theorem kc_35_122 : xe_code 35 122 = some (.if_icmp .ge 21, [143]) := kg_35_1 (i := 24) rfl
theorem kc_35_125 : xe_code 35 125 = some (.aload_n 0, []) := kg_35_1 (i := 25) rfl
theorem kc_35_126 : xe_code 35 126 = some (.getfield 93, [12, 31, 978]) := kg_35_1 (i := 26) rfl
theorem kc_35_129 : xe_code 35 129 = some (.iload_n 1, []) := kg_35_1 (i := 27) rfl
theorem kc_35_130 : xe_code 35 130 = some (.aload_n 0, []) := kg_35_1 (i := 28) rfl
theorem kc_35_131 : xe_code 35 131 = some (.getfield 47, [12, 14, 961]) := kg_35_1 (i := 29) rfl
theorem kc_35_134 : xe_code 35 134 = some (.iload_n 1, []) := kg_35_1 (i := 30) rfl
theorem kc_35_135 : xe_code 35 135 = some (.iaload, []) := kg_35_1 (i := 31) rfl
theorem kc_35_136 : xe_code 35 136 = some (.iastore, []) := kg_35_1 (i := 32) rfl
theorem kc_35_137 : xe_code 35 137 = some (.iinc 1 1, []) := kg_35_1 (i := 33) rfl
theorem kc_35_140 : xe_code 35 140 = some (.goto (-21), [119]) := kg_35_1 (i := 34) rfl
theorem kc_35_143 : xe_code 35 143 = some (.aload_n 0, []) := kg_35_1 (i := 35) rfl
theorem kc_35_144 : xe_code 35 144 = some (.aload_n 0, []) := kg_35_1 (i := 36) rfl
theorem kc_35_145 : xe_code 35 145 = some (.aload_n 0, []) := kg_35_1 (i := 37) rfl
theorem kc_35_146 : xe_code 35 146 = some (.getfield 213, [12, 1, 948]) := kg_35_1 (i := 38) rfl
theorem kc_35_149 : xe_code 35 149 = some (.invokevirtual 204, [19, 1, 1181, 12]) := kg_35_1 (i := 39) rfl
theorem kc_35_152 : xe_code 35 152 = some (.putfield 235, [12, 32, 979]) := kg_35_1 (i := 40) rfl
theorem kc_35_155 : xe_code 35 155 = some (.aload_n 0, []) := kg_35_1 (i := 41) rfl
theorem kc_35_156 : xe_code 35 156 = some (.aload_n 0, []) := kg_35_1 (i := 42) rfl
theorem kc_35_157 : xe_code 35 157 = some (.aload_n 0, []) := kg_35_1 (i := 43) rfl
theorem kc_35_158 : xe_code 35 158 = some (.getfield 213, [12, 1, 948]) := kg_35_1 (i := 44) rfl
theorem kc_35_161 : xe_code 35 161 = some (.invokevirtual 207, [20, 1, 1185, 12]) := kg_35_1 (i := 45) rfl
theorem kc_35_164 : xe_code 35 164 = some (.putfield 246, [12, 33, 980]) := kg_35_1 (i := 46) rfl
theorem kc_35_167 : xe_code 35 167 = some (.aload_n 0, []) := kg_35_1 (i := 47) rfl
theorem kc_35_168 : xe_code 35 168 = some (.iconst 0, []) := kg_35_2 (i := 0) rfl
theorem kc_35_169 : xe_code 35 169 = some (.iconst 1, []) := kg_35_2 (i := 1) rfl
theorem kc_35_170 : xe_code 35 170 = some (.aload_n 0, []) := kg_35_2 (i := 2) rfl
theorem kc_35_171 : xe_code 35 171 = some (.getfield 213, [12, 1, 948]) := kg_35_2 (i := 3) rfl
theorem kc_35_174 : xe_code 35 174 = some (.invokevirtual 252, [36, 3, 1247, 12]) := kg_35_2 (i := 4) rfl
theorem kc_35_177 : xe_code 35 177 = some (.iconst 0, []) := kg_35_2 (i := 5) rfl
theorem kc_35_178 : xe_code 35 178 = some (.istore_n 1, []) := kg_35_2 (i := 6) rfl
theorem kc_35_179 : xe_code 35 179 = some (.iload_n 1, []) := kg_35_2 (i := 7) rfl
theorem kc_35_180 : xe_code 35 180 = some (.bipush 6, []) := kg_35_2 (i := 8) rfl
theorem kc_35_182 : xe_code 35 182 = some (.if_icmp .ge 21, [203]) := kg_35_2 (i := 9) rfl
theorem kc_35_185 : xe_code 35 185 = some (.aload_n 0, []) := kg_35_2 (i := 10) rfl
theorem kc_35_186 : xe_code 35 186 = some (.getfield 25, [12, 7, 954]) := kg_35_2 (i := 11) rfl
theorem kc_35_189 : xe_code 35 189 = some (.iload_n 1, []) := kg_35_2 (i := 12) rfl
theorem kc_35_190 : xe_code 35 190 = some (.aload_n 0, []) := kg_35_2 (i := 13) rfl
theorem kc_35_191 : xe_code 35 191 = some (.getfield 90, [12, 30, 977]) := kg_35_2 (i := 14) rfl
theorem kc_35_194 : xe_code 35 194 = some (.iload_n 1, []) := kg_35_2 (i := 15) rfl
theorem kc_35_195 : xe_code 35 195 = some (.iaload, []) := kg_35_2 (i := 16) rfl
theorem kc_35_196 : xe_code 35 196 = some (.iastore, []) := kg_35_2 (i := 17) rfl
theorem kc_35_197 : xe_code 35 197 = some (.iinc 1 1, []) := kg_35_2 (i := 18) rfl
theorem kc_35_200 : xe_code 35 200 = some (.goto (-21), [179]) := kg_35_2 (i := 19) rfl
theorem kc_35_203 : xe_code 35 203 = some (.iconst 0, []) := kg_35_2 (i := 20) rfl
theorem kc_35_204 : xe_code 35 204 = some (.istore_n 1, []) := kg_35_2 (i := 21) rfl
theorem kc_35_205 : xe_code 35 205 = some (.iload_n 1, []) := kg_35_2 (i := 22) rfl
theorem kc_35_206 : xe_code 35 206 = some (.bipush 12, []) := kg_35_2 (i := 23) rfl
theorem kc_35_208 : xe_code 35 208 = some (.if_icmp .ge 66, [274]) := kg_35_2 (i := 24) rfl
theorem kc_35_211 : xe_code 35 211 = some (.aload_n 0, []) := kg_35_2 (i := 25) rfl
theorem kc_35_212 : xe_code 35 212 = some (.getfield 47, [12, 14, 961]) := kg_35_2 (i := 26) rfl
theorem kc_35_215 : xe_code 35 215 = some (.iload_n 1, []) := kg_35_2 (i := 27) rfl
theorem kc_35_216 : xe_code 35 216 = some (.aload_n 0, []) := kg_35_2 (i := 28) rfl
theorem kc_35_217 : xe_code 35 217 = some (.getfield 93, [12, 31, 978]) := kg_35_2 (i := 29) rfl
theorem kc_35_220 : xe_code 35 220 = some (.iload_n 1, []) := kg_35_2 (i := 30) rfl
theorem kc_35_221 : xe_code 35 221 = some (.iaload, []) := kg_35_2 (i := 31) rfl
theorem kc_35_222 : xe_code 35 222 = some (.iastore, []) := kg_35_2 (i := 32) rfl
theorem kc_35_223 : xe_code 35 223 = some (.aload_n 0, []) := kg_35_2 (i := 33) rfl
theorem kc_35_224 : xe_code 35 224 = some (.getfield 50, [12, 15, 962]) := kg_35_2 (i := 34) rfl
theorem kc_35_227 : xe_code 35 227 = some (.iload_n 1, []) := kg_35_2 (i := 35) rfl
theorem kc_35_228 : xe_code 35 228 = some (.dup2, []) := kg_35_2 (i := 36) rfl
theorem kc_35_229 : xe_code 35 229 = some (.iaload, []) := kg_35_2 (i := 37) rfl
theorem kc_35_230 : xe_code 35 230 = some (.aload_n 0, []) := kg_35_2 (i := 38) rfl
theorem kc_35_231 : xe_code 35 231 = some (.getfield 47, [12, 14, 961]) := kg_35_2 (i := 39) rfl
theorem kc_35_234 : xe_code 35 234 = some (.iload_n 1, []) := kg_35_2 (i := 40) rfl
theorem kc_35_235 : xe_code 35 235 = some (.iaload, []) := kg_35_2 (i := 41) rfl
theorem kc_35_236 : xe_code 35 236 = some (.bipush 50, []) := kg_35_2 (i := 42) rfl
theorem kc_35_238 : xe_code 35 238 = some (.if_icmp .lt 7, [245]) := kg_35_2 (i := 43) rfl
theorem kc_35_241 : xe_code 35 241 = some (.iconst 1, []) := kg_35_2 (i := 44) rfl
theorem kc_35_242 : xe_code 35 242 = some (.goto 4, [246]) := kg_35_2 (i := 45) rfl
theorem kc_35_245 : xe_code 35 245 = some (.iconst 0, []) := kg_35_2 (i := 46) rfl
theorem kc_35_246 : xe_code 35 246 = some (.iadd, []) := kg_35_2 (i := 47) rfl
theorem kc_35_247 : xe_code 35 247 = some (.iastore, []) := kg_35_3 (i := 0) rfl
theorem kc_35_248 : xe_code 35 248 = some (.aload_n 0, []) := kg_35_3 (i := 1) rfl
theorem kc_35_249 : xe_code 35 249 = some (.getfield 57, [12, 17, 964]) := kg_35_3 (i := 2) rfl
theorem kc_35_252 : xe_code 35 252 = some (.bipush 12, []) := kg_35_3 (i := 3) rfl
theorem kc_35_254 : xe_code 35 254 = some (.aload_n 0, []) := kg_35_3 (i := 4) rfl
theorem kc_35_255 : xe_code 35 255 = some (.getfield 213, [12, 1, 948]) := kg_35_3 (i := 5) rfl
theorem kc_35_258 : xe_code 35 258 = some (.imul, []) := kg_35_3 (i := 6) rfl
theorem kc_35_259 : xe_code 35 259 = some (.iload_n 1, []) := kg_35_3 (i := 7) rfl
theorem kc_35_260 : xe_code 35 260 = some (.iadd, []) := kg_35_3 (i := 8) rfl
theorem kc_35_261 : xe_code 35 261 = some (.aload_n 0, []) := kg_35_3 (i := 9) rfl
theorem kc_35_262 : xe_code 35 262 = some (.getfield 47, [12, 14, 961]) := kg_35_3 (i := 10) rfl
theorem kc_35_265 : xe_code 35 265 = some (.iload_n 1, []) := kg_35_3 (i := 11) rfl
theorem kc_35_266 : xe_code 35 266 = some (.iaload, []) := kg_35_3 (i := 12) rfl
theorem kc_35_267 : xe_code 35 267 = some (.iastore, []) := kg_35_3 (i := 13) rfl
theorem kc_35_268 : xe_code 35 268 = some (.iinc 1 1, []) := kg_35_3 (i := 14) rfl
theorem kc_35_271 : xe_code 35 271 = some (.goto (-66), [205]) := kg_35_3 (i := 15) rfl
theorem kc_35_274 : xe_code 35 274 = some (.aload_n 0, []) := kg_35_3 (i := 16) rfl
theorem kc_35_275 : xe_code 35 275 = some (.dup, []) := kg_35_3 (i := 17) rfl
theorem kc_35_276 : xe_code 35 276 = some (.getfield 213, [12, 1, 948]) := kg_35_3 (i := 18) rfl
theorem kc_35_279 : xe_code 35 279 = some (.iconst 1, []) := kg_35_3 (i := 19) rfl
theorem kc_35_280 : xe_code 35 280 = some (.iadd, []) := kg_35_3 (i := 20) rfl
theorem kc_35_281 : xe_code 35 281 = some (.putfield 213, [12, 1, 948]) := kg_35_3 (i := 21) rfl
theorem kc_35_284 : xe_code 35 284 = some (.iconst 0, []) := kg_35_3 (i := 22) rfl
theorem kc_35_285 : xe_code 35 285 = some (.istore_n 1, []) := kg_35_3 (i := 23) rfl
theorem kc_35_286 : xe_code 35 286 = some (.iload_n 1, []) := kg_35_3 (i := 24) rfl
theorem kc_35_287 : xe_code 35 287 = some (.aload_n 0, []) := kg_35_3 (i := 25) rfl
theorem kc_35_288 : xe_code 35 288 = some (.getfield 249, [12, 34, 981]) := kg_35_3 (i := 26) rfl
theorem kc_35_291 : xe_code 35 291 = some (.if_icmp .ge 52, [343]) := kg_35_3 (i := 27) rfl
theorem kc_35_294 : xe_code 35 294 = some (.aload_n 0, []) := kg_35_3 (i := 28) rfl
theorem kc_35_295 : xe_code 35 295 = some (.getfield 108, [12, 39, 986]) := kg_35_3 (i := 29) rfl
theorem kc_35_298 : xe_code 35 298 = some (.iload_n 1, []) := kg_35_3 (i := 30) rfl
theorem kc_35_299 : xe_code 35 299 = some (.iaload, []) := kg_35_3 (i := 31) rfl
theorem kc_35_300 : xe_code 35 300 = some (.aload_n 0, []) := kg_35_3 (i := 32) rfl
theorem kc_35_301 : xe_code 35 301 = some (.getfield 213, [12, 1, 948]) := kg_35_3 (i := 33) rfl
theorem kc_35_304 : xe_code 35 304 = some (.if_icmp .ne 33, [337]) := kg_35_3 (i := 34) rfl
theorem kc_35_307 : xe_code 35 307 = some (.aload_n 0, []) := kg_35_3 (i := 35) rfl
theorem kc_35_308 : xe_code 35 308 = some (.aload_n 0, []) := kg_35_3 (i := 36) rfl
theorem kc_35_309 : xe_code 35 309 = some (.getfield 96, [12, 35, 982]) := kg_35_3 (i := 37) rfl
theorem kc_35_312 : xe_code 35 312 = some (.iload_n 1, []) := kg_35_3 (i := 38) rfl
theorem kc_35_313 : xe_code 35 313 = some (.iaload, []) := kg_35_3 (i := 39) rfl
theorem kc_35_314 : xe_code 35 314 = some (.aload_n 0, []) := kg_35_3 (i := 40) rfl
theorem kc_35_315 : xe_code 35 315 = some (.getfield 99, [12, 36, 983]) := kg_35_3 (i := 41) rfl
theorem kc_35_318 : xe_code 35 318 = some (.iload_n 1, []) := kg_35_3 (i := 42) rfl
theorem kc_35_319 : xe_code 35 319 = some (.iaload, []) := kg_35_3 (i := 43) rfl
theorem kc_35_320 : xe_code 35 320 = some (.ifCond .ne 7, [327]) := kg_35_3 (i := 44) rfl
theorem kc_35_323 : xe_code 35 323 = some (.iconst 4, []) := kg_35_3 (i := 45) rfl
theorem kc_35_324 : xe_code 35 324 = some (.goto 4, [328]) := kg_35_3 (i := 46) rfl
theorem kc_35_327 : xe_code 35 327 = some (.iconst 2, []) := kg_35_3 (i := 47) rfl
theorem kc_35_328 : xe_code 35 328 = some (.aload_n 0, []) := kg_35_4 (i := 0) rfl
theorem kc_35_329 : xe_code 35 329 = some (.getfield 111, [12, 40, 987]) := kg_35_4 (i := 1) rfl
theorem kc_35_332 : xe_code 35 332 = some (.iload_n 1, []) := kg_35_4 (i := 2) rfl
theorem kc_35_333 : xe_code 35 333 = some (.iaload, []) := kg_35_4 (i := 3) rfl
theorem kc_35_334 : xe_code 35 334 = some (.invokevirtual 197, [14, 3, 1160, 12]) := kg_35_4 (i := 4) rfl
theorem kc_35_337 : xe_code 35 337 = some (.iinc 1 1, []) := kg_35_4 (i := 5) rfl
theorem kc_35_340 : xe_code 35 340 = some (.goto (-54), [286]) := kg_35_4 (i := 6) rfl
theorem kc_35_343 : xe_code 35 343 = some (.aload_n 0, []) := kg_35_4 (i := 7) rfl
theorem kc_35_344 : xe_code 35 344 = some (.iconst 0, []) := kg_35_4 (i := 8) rfl
theorem kc_35_345 : xe_code 35 345 = some (.putfield 181, [12, 41, 988]) := kg_35_4 (i := 9) rfl
theorem kc_35_348 : xe_code 35 348 = some (.return_, []) := kg_35_4 (i := 10) rfl
theorem kc_36_0 : xe_code 36 0 = some (.iconst 0, []) := kg_36_0 (i := 0) rfl
theorem kc_36_1 : xe_code 36 1 = some (.istore 4, []) := kg_36_0 (i := 1) rfl
theorem kc_36_3 : xe_code 36 3 = some (.iload 4, []) := kg_36_0 (i := 2) rfl
theorem kc_36_5 : xe_code 36 5 = some (.bipush 6, []) := kg_36_0 (i := 3) rfl
theorem kc_36_7 : xe_code 36 7 = some (.if_icmp .ge 18, [25]) := kg_36_0 (i := 4) rfl
theorem kc_36_10 : xe_code 36 10 = some (.aload_n 0, []) := kg_36_0 (i := 5) rfl
theorem kc_36_11 : xe_code 36 11 = some (.iload 4, []) := kg_36_0 (i := 6) rfl
theorem kc_36_13 : xe_code 36 13 = some (.iload_n 1, []) := kg_36_0 (i := 7) rfl
theorem kc_36_14 : xe_code 36 14 = some (.iload_n 2, []) := kg_36_0 (i := 8) rfl
theorem kc_36_15 : xe_code 36 15 = some (.iload_n 3, []) := kg_36_0 (i := 9) rfl
theorem kc_36_16 : xe_code 36 16 = some (.invokevirtual 242, [37, 4, 1251, 12]) := kg_36_0 (i := 10) rfl
theorem kc_36_19 : xe_code 36 19 = some (.iinc 4 1, []) := kg_36_0 (i := 11) rfl
theorem kc_36_22 : xe_code 36 22 = some (.goto (-19), [3]) := kg_36_0 (i := 12) rfl
theorem kc_36_25 : xe_code 36 25 = some (.iconst 0, []) := kg_36_0 (i := 13) rfl
theorem kc_36_26 : xe_code 36 26 = some (.istore 4, []) := kg_36_0 (i := 14) rfl
theorem kc_36_28 : xe_code 36 28 = some (.iload 4, []) := kg_36_0 (i := 15) rfl
theorem kc_36_30 : xe_code 36 30 = some (.aload_n 0, []) := kg_36_0 (i := 16) rfl
theorem kc_36_31 : xe_code 36 31 = some (.getfield 225, [12, 23, 970]) := kg_36_0 (i := 17) rfl
theorem kc_36_34 : xe_code 36 34 = some (.if_icmp .ge 120, [154]) := kg_36_0 (i := 18) rfl
theorem kc_36_37 : xe_code 36 37 = some (.aload_n 0, []) := kg_36_0 (i := 19) rfl
theorem kc_36_38 : xe_code 36 38 = some (.getfield 72, [12, 24, 971]) := kg_36_0 (i := 20) rfl
theorem kc_36_41 : xe_code 36 41 = some (.iload 4, []) := kg_36_0 (i := 21) rfl
theorem kc_36_43 : xe_code 36 43 = some (.iaload, []) := kg_36_0 (i := 22) rfl
theorem kc_36_44 : xe_code 36 44 = some (.iconst 3, []) := kg_36_0 (i := 23) rfl
theorem kc_36_45 : xe_code 36 45 = some (.if_icmp .ge 103, [148]) := kg_36_0 (i := 24) rfl
theorem kc_36_48 : xe_code 36 48 = some (.aload_n 0, []) := kg_36_0 (i := 25) rfl
theorem kc_36_49 : xe_code 36 49 = some (.iload 4, []) := kg_36_0 (i := 26) rfl
theorem kc_36_51 : xe_code 36 51 = some (.iload_n 1, []) := kg_36_0 (i := 27) rfl
theorem kc_36_52 : xe_code 36 52 = some (.iload_n 2, []) := kg_36_0 (i := 28) rfl
theorem kc_36_53 : xe_code 36 53 = some (.iload_n 3, []) := kg_36_0 (i := 29) rfl
theorem kc_36_54 : xe_code 36 54 = some (.invokevirtual 228, [38, 4, 1255, 12]) := kg_36_0 (i := 30) rfl
theorem kc_36_57 : xe_code 36 57 = some (.ifCond .eq 91, [148]) := kg_36_0 (i := 31) rfl
theorem kc_36_60 : xe_code 36 60 = some (.aload_n 0, []) := kg_36_0 (i := 32) rfl
theorem kc_36_61 : xe_code 36 61 = some (.getfield 72, [12, 24, 971]) := kg_36_0 (i := 33) rfl
theorem kc_36_64 : xe_code 36 64 = some (.iload 4, []) := kg_36_0 (i := 34) rfl
theorem kc_36_66 : xe_code 36 66 = some (.iaload, []) := kg_36_0 (i := 35) rfl
theorem kc_36_67 : xe_code 36 67 = some (.ifCond .ne 18, [85]) := kg_36_0 (i := 36) rfl
theorem kc_36_70 : xe_code 36 70 = some (.aload_n 0, []) := kg_36_0 (i := 37) rfl
theorem kc_36_71 : xe_code 36 71 = some (.getfield 78, [12, 26, 973]) := kg_36_0 (i := 38) rfl
theorem kc_36_74 : xe_code 36 74 = some (.iload 4, []) := kg_36_0 (i := 39) rfl
theorem kc_36_76 : xe_code 36 76 = some (.iaload, []) := kg_36_0 (i := 40) rfl
theorem kc_36_77 : xe_code 36 77 = some (.aload_n 0, []) := kg_36_0 (i := 41) rfl
theorem kc_36_78 : xe_code 36 78 = some (.getfield 246, [12, 33, 980]) := kg_36_0 (i := 42) rfl
theorem kc_36_81 : xe_code 36 81 = some (.imul, []) := kg_36_0 (i := 43) rfl
theorem kc_36_82 : xe_code 36 82 = some (.goto 34, [116]) := kg_36_0 (i := 44) rfl
theorem kc_36_85 : xe_code 36 85 = some (.aload_n 0, []) := kg_36_0 (i := 45) rfl
theorem kc_36_86 : xe_code 36 86 = some (.getfield 72, [12, 24, 971]) := kg_36_0 (i := 46) rfl
theorem kc_36_89 : xe_code 36 89 = some (.iload 4, []) := kg_36_0 (i := 47) rfl
theorem kc_36_91 : xe_code 36 91 = some (.iaload, []) := kg_36_1 (i := 0) rfl
theorem kc_36_92 : xe_code 36 92 = some (.iconst 1, []) := kg_36_1 (i := 1) rfl
theorem kc_36_93 : xe_code 36 93 = some (.if_icmp .eq 12, [105]) := kg_36_1 (i := 2) rfl
theorem kc_36_96 : xe_code 36 96 = some (.iload_n 3, []) := kg_36_1 (i := 3) rfl
theorem kc_36_97 : xe_code 36 97 = some (.bipush 24, []) := kg_36_1 (i := 4) rfl
theorem kc_36_99 : xe_code 36 99 = some (.irem, []) := kg_36_1 (i := 5) rfl
theorem kc_36_100 : xe_code 36 100 = some (.bipush 6, []) := kg_36_1 (i := 6) rfl
theorem kc_36_102 : xe_code 36 102 = some (.if_icmp .ge 13, [115]) := kg_36_1 (i := 7) rfl
theorem kc_36_105 : xe_code 36 105 = some (.aload_n 0, []) := kg_36_1 (i := 8) rfl
theorem kc_36_106 : xe_code 36 106 = some (.getfield 78, [12, 26, 973]) := kg_36_1 (i := 9) rfl
theorem kc_36_109 : xe_code 36 109 = some (.iload 4, []) := kg_36_1 (i := 10) rfl
theorem kc_36_111 : xe_code 36 111 = some (.iaload, []) := kg_36_1 (i := 11) rfl
theorem kc_36_112 : xe_code 36 112 = some (.goto 4, [116]) := kg_36_1 (i := 12) rfl
theorem kc_36_115 : xe_code 36 115 = some (.iconst 0, []) := kg_36_1 (i := 13) rfl
theorem kc_36_116 : xe_code 36 116 = some (.istore 5, []) := kg_36_1 (i := 14) rfl
theorem kc_36_118 : xe_code 36 118 = some (.aload_n 0, []) := kg_36_1 (i := 15) rfl
theorem kc_36_119 : xe_code 36 119 = some (.getfield 93, [12, 31, 978]) := kg_36_1 (i := 16) rfl
theorem kc_36_122 : xe_code 36 122 = some (.aload_n 0, []) := kg_36_1 (i := 17) rfl
theorem kc_36_123 : xe_code 36 123 = some (.getfield 75, [12, 25, 972]) := kg_36_1 (i := 18) rfl
theorem kc_36_126 : xe_code 36 126 = some (.iload 4, []) := kg_36_1 (i := 19) rfl
theorem kc_36_128 : xe_code 36 128 = some (.iaload, []) := kg_36_1 (i := 20) rfl
theorem kc_36_129 : xe_code 36 129 = some (.aload_n 0, []) := kg_36_1 (i := 21) rfl
theorem kc_36_130 : xe_code 36 130 = some (.getfield 93, [12, 31, 978]) := kg_36_1 (i := 22) rfl
theorem kc_36_133 : xe_code 36 133 = some (.aload_n 0, []) := kg_36_1 (i := 23) rfl
theorem kc_36_134 : xe_code 36 134 = some (.getfield 75, [12, 25, 972]) := kg_36_1 (i := 24) rfl
theorem kc_36_137 : xe_code 36 137 = some (.iload 4, []) := kg_36_1 (i := 25) rfl
theorem kc_36_139 : xe_code 36 139 = some (.iaload, []) := kg_36_1 (i := 26) rfl
theorem kc_36_140 : xe_code 36 140 = some (.iaload, []) := kg_36_1 (i := 27) rfl
theorem kc_36_141 : xe_code 36 141 = some (.iload 5, []) := kg_36_1 (i := 28) rfl
theorem kc_36_143 : xe_code 36 143 = some (.iadd, []) := kg_36_1 (i := 29) rfl
theorem kc_36_144 : xe_code 36 144 = some (.invokestatic 232, [39, 1, 1259, 12]) := kg_36_1 (i := 30) rfl
theorem kc_36_147 : xe_code 36 147 = some (.iastore, []) := kg_36_1 (i := 31) rfl
theorem kc_36_148 : xe_code 36 148 = some (.iinc 4 1, []) := kg_36_1 (i := 32) rfl
theorem kc_36_151 : xe_code 36 151 = some (.goto (-123), [28]) := kg_36_1 (i := 33) rfl
theorem kc_36_154 : xe_code 36 154 = some (.iconst 0, []) := kg_36_1 (i := 34) rfl
theorem kc_36_155 : xe_code 36 155 = some (.istore 4, []) := kg_36_1 (i := 35) rfl
theorem kc_36_157 : xe_code 36 157 = some (.iload 4, []) := kg_36_1 (i := 36) rfl
theorem kc_36_159 : xe_code 36 159 = some (.bipush 12, []) := kg_36_1 (i := 37) rfl
theorem kc_36_161 : xe_code 36 161 = some (.if_icmp .ge 37, [198]) := kg_36_1 (i := 38) rfl
theorem kc_36_164 : xe_code 36 164 = some (.aload_n 0, []) := kg_36_1 (i := 39) rfl
theorem kc_36_165 : xe_code 36 165 = some (.getfield 93, [12, 31, 978]) := kg_36_1 (i := 40) rfl
theorem kc_36_168 : xe_code 36 168 = some (.iload 4, []) := kg_36_1 (i := 41) rfl
theorem kc_36_170 : xe_code 36 170 = some (.dup2, []) := kg_36_1 (i := 42) rfl
theorem kc_36_171 : xe_code 36 171 = some (.iaload, []) := kg_36_1 (i := 43) rfl
theorem kc_36_172 : xe_code 36 172 = some (.aload_n 0, []) := kg_36_1 (i := 44) rfl
theorem kc_36_173 : xe_code 36 173 = some (.getfield 93, [12, 31, 978]) := kg_36_1 (i := 45) rfl
theorem kc_36_176 : xe_code 36 176 = some (.iload 4, []) := kg_36_1 (i := 46) rfl
theorem kc_36_178 : xe_code 36 178 = some (.iaload, []) := kg_36_1 (i := 47) rfl
theorem kc_36_179 : xe_code 36 179 = some (.aload_n 0, []) := kg_36_2 (i := 0) rfl
theorem kc_36_180 : xe_code 36 180 = some (.getfield 53, [12, 16, 963]) := kg_36_2 (i := 1) rfl
theorem kc_36_183 : xe_code 36 183 = some (.imul, []) := kg_36_2 (i := 2) rfl
theorem kc_36_184 : xe_code 36 184 = some (.bipush 99, []) := kg_36_2 (i := 3) rfl
theorem kc_36_186 : xe_code 36 186 = some (.iadd, []) := kg_36_2 (i := 4) rfl
theorem kc_36_187 : xe_code 36 187 = some (.bipush 100, []) := kg_36_2 (i := 5) rfl
theorem kc_36_189 : xe_code 36 189 = some (.idiv, []) := kg_36_2 (i := 6) rfl
theorem kc_36_190 : xe_code 36 190 = some (.isub, []) := kg_36_2 (i := 7) rfl
theorem kc_36_191 : xe_code 36 191 = some (.iastore, []) := kg_36_2 (i := 8) rfl
theorem kc_36_192 : xe_code 36 192 = some (.iinc 4 1, []) := kg_36_2 (i := 9) rfl
theorem kc_36_195 : xe_code 36 195 = some (.goto (-38), [157]) := kg_36_2 (i := 10) rfl
theorem kc_36_198 : xe_code 36 198 = some (.return_, []) := kg_36_2 (i := 11) rfl
theorem kc_37_0 : xe_code 37 0 = some (.aload_n 0, []) := kg_37_0 (i := 0) rfl
theorem kc_37_1 : xe_code 37 1 = some (.getfield 90, [12, 30, 977]) := kg_37_0 (i := 1) rfl
theorem kc_37_4 : xe_code 37 4 = some (.iload_n 1, []) := kg_37_0 (i := 2) rfl
theorem kc_37_5 : xe_code 37 5 = some (.iaload, []) := kg_37_0 (i := 3) rfl
theorem kc_37_6 : xe_code 37 6 = some (.aload_n 0, []) := kg_37_0 (i := 4) rfl
theorem kc_37_7 : xe_code 37 7 = some (.getfield 28, [12, 8, 955]) := kg_37_0 (i := 5) rfl
theorem kc_37_10 : xe_code 37 10 = some (.bipush 24, []) := kg_37_0 (i := 6) rfl
theorem kc_37_12 : xe_code 37 12 = some (.iload_n 1, []) := kg_37_0 (i := 7) rfl
theorem kc_37_13 : xe_code 37 13 = some (.imul, []) := kg_37_0 (i := 8) rfl
theorem kc_37_14 : xe_code 37 14 = some (.iload 4, []) := kg_37_0 (i := 9) rfl
theorem kc_37_16 : xe_code 37 16 = some (.bipush 24, []) := kg_37_0 (i := 10) rfl
theorem kc_37_18 : xe_code 37 18 = some (.irem, []) := kg_37_0 (i := 11) rfl
theorem kc_37_19 : xe_code 37 19 = some (.iadd, []) := kg_37_0 (i := 12) rfl
theorem kc_37_20 : xe_code 37 20 = some (.iaload, []) := kg_37_0 (i := 13) rfl
theorem kc_37_21 : xe_code 37 21 = some (.iadd, []) := kg_37_0 (i := 14) rfl
theorem kc_37_22 : xe_code 37 22 = some (.istore 5, []) := kg_37_0 (i := 15) rfl
theorem kc_37_24 : xe_code 37 24 = some (.iconst 0, []) := kg_37_0 (i := 16) rfl
theorem kc_37_25 : xe_code 37 25 = some (.istore 6, []) := kg_37_0 (i := 17) rfl
theorem kc_37_27 : xe_code 37 27 = some (.iload 6, []) := kg_37_0 (i := 18) rfl
theorem kc_37_29 : xe_code 37 29 = some (.aload_n 0, []) := kg_37_0 (i := 19) rfl
theorem kc_37_30 : xe_code 37 30 = some (.getfield 225, [12, 23, 970]) := kg_37_0 (i := 20) rfl
theorem kc_37_33 : xe_code 37 33 = some (.if_icmp .ge 60, [93]) := kg_37_0 (i := 21) rfl
theorem kc_37_36 : xe_code 37 36 = some (.iload 5, []) := kg_37_0 (i := 22) rfl
theorem kc_37_38 : xe_code 37 38 = some (.aload_n 0, []) := kg_37_0 (i := 23) rfl
theorem kc_37_39 : xe_code 37 39 = some (.getfield 72, [12, 24, 971]) := kg_37_0 (i := 24) rfl
theorem kc_37_42 : xe_code 37 42 = some (.iload 6, []) := kg_37_0 (i := 25) rfl
theorem kc_37_44 : xe_code 37 44 = some (.iaload, []) := kg_37_0 (i := 26) rfl
theorem kc_37_45 : xe_code 37 45 = some (.iconst 3, []) := kg_37_0 (i := 27) rfl
theorem kc_37_46 : xe_code 37 46 = some (.if_icmp .ne 37, [83]) := kg_37_0 (i := 28) rfl
theorem kc_37_49 : xe_code 37 49 = some (.aload_n 0, []) := kg_37_0 (i := 29) rfl
theorem kc_37_50 : xe_code 37 50 = some (.getfield 75, [12, 25, 972]) := kg_37_0 (i := 30) rfl
theorem kc_37_53 : xe_code 37 53 = some (.iload 6, []) := kg_37_0 (i := 31) rfl
theorem kc_37_55 : xe_code 37 55 = some (.iaload, []) := kg_37_0 (i := 32) rfl
theorem kc_37_56 : xe_code 37 56 = some (.iload_n 1, []) := kg_37_0 (i := 33) rfl
theorem kc_37_57 : xe_code 37 57 = some (.if_icmp .ne 26, [83]) := kg_37_0 (i := 34) rfl
theorem kc_37_60 : xe_code 37 60 = some (.aload_n 0, []) := kg_37_0 (i := 35) rfl
theorem kc_37_61 : xe_code 37 61 = some (.iload 6, []) := kg_37_0 (i := 36) rfl
theorem kc_37_63 : xe_code 37 63 = some (.iload_n 2, []) := kg_37_0 (i := 37) rfl
theorem kc_37_64 : xe_code 37 64 = some (.iload_n 3, []) := kg_37_0 (i := 38) rfl
theorem kc_37_65 : xe_code 37 65 = some (.iload 4, []) := kg_37_0 (i := 39) rfl
theorem kc_37_67 : xe_code 37 67 = some (.invokevirtual 228, [38, 4, 1255, 12]) := kg_37_0 (i := 40) rfl
theorem kc_37_70 : xe_code 37 70 = some (.ifCond .eq 13, [83]) := kg_37_0 (i := 41) rfl
theorem kc_37_73 : xe_code 37 73 = some (.aload_n 0, []) := kg_37_0 (i := 42) rfl
theorem kc_37_74 : xe_code 37 74 = some (.getfield 78, [12, 26, 973]) := kg_37_0 (i := 43) rfl
theorem kc_37_77 : xe_code 37 77 = some (.iload 6, []) := kg_37_0 (i := 44) rfl
theorem kc_37_79 : xe_code 37 79 = some (.iaload, []) := kg_37_0 (i := 45) rfl
theorem kc_37_80 : xe_code 37 80 = some (.goto 4, [84]) := kg_37_0 (i := 46) rfl
theorem kc_37_83 : xe_code 37 83 = some (.iconst 0, []) := kg_37_0 (i := 47) rfl
theorem kc_37_84 : xe_code 37 84 = some (.iadd, []) := kg_37_1 (i := 0) rfl
theorem kc_37_85 : xe_code 37 85 = some (.istore 5, []) := kg_37_1 (i := 1) rfl
theorem kc_37_87 : xe_code 37 87 = some (.iinc 6 1, []) := kg_37_1 (i := 2) rfl
theorem kc_37_90 : xe_code 37 90 = some (.goto (-63), [27]) := kg_37_1 (i := 3) rfl
theorem kc_37_93 : xe_code 37 93 = some (.iload 5, []) := kg_37_1 (i := 4) rfl
theorem kc_37_95 : xe_code 37 95 = some (.invokestatic 232, [39, 1, 1259, 12]) := kg_37_1 (i := 5) rfl
theorem kc_37_98 : xe_code 37 98 = some (.istore 5, []) := kg_37_1 (i := 6) rfl
theorem kc_37_100 : xe_code 37 100 = some (.aload_n 0, []) := kg_37_1 (i := 7) rfl
theorem kc_37_101 : xe_code 37 101 = some (.getfield 7, [12, 2, 949]) := kg_37_1 (i := 8) rfl
theorem kc_37_104 : xe_code 37 104 = some (.iload_n 1, []) := kg_37_1 (i := 9) rfl
theorem kc_37_105 : xe_code 37 105 = some (.iaload, []) := kg_37_1 (i := 10) rfl
theorem kc_37_106 : xe_code 37 106 = some (.aload_n 0, []) := kg_37_1 (i := 11) rfl
theorem kc_37_107 : xe_code 37 107 = some (.getfield 235, [12, 32, 979]) := kg_37_1 (i := 12) rfl
theorem kc_37_110 : xe_code 37 110 = some (.invokestatic 210, [22, 1, 1193, 12]) := kg_37_1 (i := 13) rfl
theorem kc_37_113 : xe_code 37 113 = some (.imul, []) := kg_37_1 (i := 14) rfl
theorem kc_37_114 : xe_code 37 114 = some (.iconst 2, []) := kg_37_1 (i := 15) rfl
theorem kc_37_115 : xe_code 37 115 = some (.idiv, []) := kg_37_1 (i := 16) rfl
theorem kc_37_116 : xe_code 37 116 = some (.istore 6, []) := kg_37_1 (i := 17) rfl
theorem kc_37_118 : xe_code 37 118 = some (.iload 5, []) := kg_37_1 (i := 18) rfl
theorem kc_37_120 : xe_code 37 120 = some (.iload 5, []) := kg_37_1 (i := 19) rfl
theorem kc_37_122 : xe_code 37 122 = some (.iload 6, []) := kg_37_1 (i := 20) rfl
theorem kc_37_124 : xe_code 37 124 = some (.isub, []) := kg_37_1 (i := 21) rfl
theorem kc_37_125 : xe_code 37 125 = some (.aload_n 0, []) := kg_37_1 (i := 22) rfl
theorem kc_37_126 : xe_code 37 126 = some (.getfield 16, [12, 4, 951]) := kg_37_1 (i := 23) rfl
theorem kc_37_129 : xe_code 37 129 = some (.iload_n 1, []) := kg_37_1 (i := 24) rfl
theorem kc_37_130 : xe_code 37 130 = some (.iaload, []) := kg_37_1 (i := 25) rfl
theorem kc_37_131 : xe_code 37 131 = some (.aload_n 0, []) := kg_37_1 (i := 26) rfl
theorem kc_37_132 : xe_code 37 132 = some (.getfield 22, [12, 6, 953]) := kg_37_1 (i := 27) rfl
theorem kc_37_135 : xe_code 37 135 = some (.iload_n 1, []) := kg_37_1 (i := 28) rfl
theorem kc_37_136 : xe_code 37 136 = some (.iaload, []) := kg_37_1 (i := 29) rfl
theorem kc_37_137 : xe_code 37 137 = some (.iconst 1, []) := kg_37_1 (i := 30) rfl
theorem kc_37_138 : xe_code 37 138 = some (.if_icmp .ne 12, [150]) := kg_37_1 (i := 31) rfl
theorem kc_37_141 : xe_code 37 141 = some (.aload_n 0, []) := kg_37_1 (i := 32) rfl
theorem kc_37_142 : xe_code 37 142 = some (.getfield 19, [12, 5, 952]) := kg_37_1 (i := 33) rfl
theorem kc_37_145 : xe_code 37 145 = some (.iload_n 1, []) := kg_37_1 (i := 34) rfl
theorem kc_37_146 : xe_code 37 146 = some (.iaload, []) := kg_37_1 (i := 35) rfl
theorem kc_37_147 : xe_code 37 147 = some (.goto 4, [151]) := kg_37_1 (i := 36) rfl
theorem kc_37_150 : xe_code 37 150 = some (.iconst 0, []) := kg_37_1 (i := 37) rfl
theorem kc_37_151 : xe_code 37 151 = some (.iadd, []) := kg_37_1 (i := 38) rfl
theorem kc_37_152 : xe_code 37 152 = some (.imul, []) := kg_37_1 (i := 39) rfl
theorem kc_37_153 : xe_code 37 153 = some (.bipush 100, []) := kg_37_1 (i := 40) rfl
theorem kc_37_155 : xe_code 37 155 = some (.idiv, []) := kg_37_1 (i := 41) rfl
theorem kc_37_156 : xe_code 37 156 = some (.isub, []) := kg_37_1 (i := 42) rfl
theorem kc_37_157 : xe_code 37 157 = some (.invokestatic 232, [39, 1, 1259, 12]) := kg_37_1 (i := 43) rfl
theorem kc_37_160 : xe_code 37 160 = some (.istore 5, []) := kg_37_1 (i := 44) rfl
theorem kc_37_162 : xe_code 37 162 = some (.aload_n 0, []) := kg_37_1 (i := 45) rfl
theorem kc_37_163 : xe_code 37 163 = some (.getfield 7, [12, 2, 949]) := kg_37_1 (i := 46) rfl
theorem kc_37_166 : xe_code 37 166 = some (.iload_n 1, []) := kg_37_1 (i := 47) rfl
theorem kc_37_167 : xe_code 37 167 = some (.iaload, []) := kg_37_2 (i := 0) rfl
theorem kc_37_168 : xe_code 37 168 = some (.aload_n 0, []) := kg_37_2 (i := 1) rfl
theorem kc_37_169 : xe_code 37 169 = some (.getfield 13, [12, 3, 950]) := kg_37_2 (i := 2) rfl
theorem kc_37_172 : xe_code 37 172 = some (.iload_n 1, []) := kg_37_2 (i := 3) rfl
theorem kc_37_173 : xe_code 37 173 = some (.iaload, []) := kg_37_2 (i := 4) rfl
theorem kc_37_174 : xe_code 37 174 = some (.invokestatic 210, [22, 1, 1193, 12]) := kg_37_2 (i := 5) rfl
theorem kc_37_177 : xe_code 37 177 = some (.imul, []) := kg_37_2 (i := 6) rfl
theorem kc_37_178 : xe_code 37 178 = some (.istore 7, []) := kg_37_2 (i := 7) rfl
theorem kc_37_180 : xe_code 37 180 = some (.iload 5, []) := kg_37_2 (i := 8) rfl
theorem kc_37_182 : xe_code 37 182 = some (.iload 7, []) := kg_37_2 (i := 9) rfl
theorem kc_37_184 : xe_code 37 184 = some (.if_icmp .le 11, [195]) := kg_37_2 (i := 10) rfl
theorem kc_37_187 : xe_code 37 187 = some (.iload 5, []) := kg_37_2 (i := 11) rfl
theorem kc_37_189 : xe_code 37 189 = some (.iload 7, []) := kg_37_2 (i := 12) rfl
theorem kc_37_191 : xe_code 37 191 = some (.isub, []) := kg_37_2 (i := 13) rfl
theorem kc_37_192 : xe_code 37 192 = some (.goto 4, [196]) := kg_37_2 (i := 14) rfl
theorem kc_37_195 : xe_code 37 195 = some (.iconst 0, []) := kg_37_2 (i := 15) rfl
theorem kc_37_196 : xe_code 37 196 = some (.istore 8, []) := kg_37_2 (i := 16) rfl
theorem kc_37_198 : xe_code 37 198 = some (.aload_n 0, []) := kg_37_2 (i := 17) rfl
theorem kc_37_199 : xe_code 37 199 = some (.getfield 90, [12, 30, 977]) := kg_37_2 (i := 18) rfl
theorem kc_37_202 : xe_code 37 202 = some (.iload_n 1, []) := kg_37_2 (i := 19) rfl
theorem kc_37_203 : xe_code 37 203 = some (.iload 5, []) := kg_37_2 (i := 20) rfl
theorem kc_37_205 : xe_code 37 205 = some (.iload 8, []) := kg_37_2 (i := 21) rfl
theorem kc_37_207 : xe_code 37 207 = some (.isub, []) := kg_37_2 (i := 22) rfl
theorem kc_37_208 : xe_code 37 208 = some (.iastore, []) := kg_37_2 (i := 23) rfl
theorem kc_37_209 : xe_code 37 209 = some (.iload 8, []) := kg_37_2 (i := 24) rfl
theorem kc_37_211 : xe_code 37 211 = some (.ifCond .le 10, [221]) := kg_37_2 (i := 25) rfl
theorem kc_37_214 : xe_code 37 214 = some (.aload_n 0, []) := kg_37_2 (i := 26) rfl
theorem kc_37_215 : xe_code 37 215 = some (.iload_n 1, []) := kg_37_2 (i := 27) rfl
theorem kc_37_216 : xe_code 37 216 = some (.iload 8, []) := kg_37_2 (i := 28) rfl
theorem kc_37_218 : xe_code 37 218 = some (.invokevirtual 238, [40, 2, 1262, 12]) := kg_37_2 (i := 29) rfl
theorem kc_37_221 : xe_code 37 221 = some (.return_, []) := kg_37_2 (i := 30) rfl
theorem kc_38_0 : xe_code 38 0 = some (.iload_n 3, []) := kg_38_0 (i := 0) rfl
theorem kc_38_1 : xe_code 38 1 = some (.ifCond .eq 15, [16]) := kg_38_0 (i := 1) rfl
theorem kc_38_4 : xe_code 38 4 = some (.aload_n 0, []) := kg_38_0 (i := 2) rfl
theorem kc_38_5 : xe_code 38 5 = some (.getfield 84, [12, 28, 975]) := kg_38_0 (i := 3) rfl
theorem kc_38_8 : xe_code 38 8 = some (.iload_n 1, []) := kg_38_0 (i := 4) rfl
theorem kc_38_9 : xe_code 38 9 = some (.baload, []) := kg_38_0 (i := 5) rfl
theorem kc_38_10 : xe_code 38 10 = some (.ifCond .eq 30, [40]) := kg_38_0 (i := 6) rfl
theorem kc_38_13 : xe_code 38 13 = some (.goto 12, [25]) := kg_38_0 (i := 7) rfl
theorem kc_38_16 : xe_code 38 16 = some (.iload_n 2, []) := kg_38_0 (i := 8) rfl
theorem kc_38_17 : xe_code 38 17 = some (.iload_n 1, []) := kg_38_0 (i := 9) rfl
theorem kc_38_18 : xe_code 38 18 = some (.ishr, []) := kg_38_0 (i := 10) rfl
theorem kc_38_19 : xe_code 38 19 = some (.iconst 1, []) := kg_38_0 (i := 11) rfl
theorem kc_38_20 : xe_code 38 20 = some (.iand, []) := kg_38_0 (i := 12) rfl
theorem kc_38_21 : xe_code 38 21 = some (.iconst 1, []) := kg_38_0 (i := 13) rfl
theorem kc_38_22 : xe_code 38 22 = some (.if_icmp .ne 18, [40]) := kg_38_0 (i := 14) rfl
theorem kc_38_25 : xe_code 38 25 = some (.aload_n 0, []) := kg_38_0 (i := 15) rfl
theorem kc_38_26 : xe_code 38 26 = some (.getfield 81, [12, 27, 974]) := kg_38_0 (i := 16) rfl
theorem kc_38_29 : xe_code 38 29 = some (.iload_n 1, []) := kg_38_0 (i := 17) rfl
theorem kc_38_30 : xe_code 38 30 = some (.iaload, []) := kg_38_0 (i := 18) rfl
theorem kc_38_31 : xe_code 38 31 = some (.iload 4, []) := kg_38_0 (i := 19) rfl
theorem kc_38_33 : xe_code 38 33 = some (.if_icmp .gt 7, [40]) := kg_38_0 (i := 20) rfl
theorem kc_38_36 : xe_code 38 36 = some (.iconst 1, []) := kg_38_0 (i := 21) rfl
theorem kc_38_37 : xe_code 38 37 = some (.goto 4, [41]) := kg_38_0 (i := 22) rfl
theorem kc_38_40 : xe_code 38 40 = some (.iconst 0, []) := kg_38_0 (i := 23) rfl
theorem kc_38_41 : xe_code 38 41 = some (.ireturn, []) := kg_38_0 (i := 24) rfl
theorem kc_39_0 : xe_code 39 0 = some (.iload_n 0, []) := kg_39_0 (i := 0) rfl
theorem kc_39_1 : xe_code 39 1 = some (.ifCond .ge 7, [8]) := kg_39_0 (i := 1) rfl
theorem kc_39_4 : xe_code 39 4 = some (.iconst 0, []) := kg_39_0 (i := 2) rfl
theorem kc_39_5 : xe_code 39 5 = some (.goto 15, [20]) := kg_39_0 (i := 3) rfl
theorem kc_39_8 : xe_code 39 8 = some (.iload_n 0, []) := kg_39_0 (i := 4) rfl
theorem kc_39_9 : xe_code 39 9 = some (.ldc 192, [99999, 1155]) := kg_39_0 (i := 5) rfl
theorem kc_39_11 : xe_code 39 11 = some (.if_icmp .le 8, [19]) := kg_39_0 (i := 6) rfl
theorem kc_39_14 : xe_code 39 14 = some (.ldc 192, [99999, 1155]) := kg_39_0 (i := 7) rfl
theorem kc_39_16 : xe_code 39 16 = some (.goto 4, [20]) := kg_39_0 (i := 8) rfl
theorem kc_39_19 : xe_code 39 19 = some (.iload_n 0, []) := kg_39_0 (i := 9) rfl
theorem kc_39_20 : xe_code 39 20 = some (.ireturn, []) := kg_39_0 (i := 10) rfl
theorem kc_40_0 : xe_code 40 0 = some (.iconst 0, []) := kg_40_0 (i := 0) rfl
theorem kc_40_1 : xe_code 40 1 = some (.istore_n 3, []) := kg_40_0 (i := 1) rfl
theorem kc_40_2 : xe_code 40 2 = some (.iconst (-1), []) := kg_40_0 (i := 2) rfl
theorem kc_40_3 : xe_code 40 3 = some (.istore 4, []) := kg_40_0 (i := 3) rfl
theorem kc_40_5 : xe_code 40 5 = some (.bipush 11, []) := kg_40_0 (i := 4) rfl
theorem kc_40_7 : xe_code 40 7 = some (.istore 5, []) := kg_40_0 (i := 5) rfl
theorem kc_40_9 : xe_code 40 9 = some (.iload 5, []) := kg_40_0 (i := 6) rfl
theorem kc_40_11 : xe_code 40 11 = some (.ifCond .lt 62, [73]) := kg_40_0 (i := 7) rfl
theorem kc_40_14 : xe_code 40 14 = some (.aload_n 0, []) := kg_40_0 (i := 8) rfl
theorem kc_40_15 : xe_code 40 15 = some (.getfield 37, [12, 11, 958]) := kg_40_0 (i := 9) rfl
theorem kc_40_18 : xe_code 40 18 = some (.iload 5, []) := kg_40_0 (i := 10) rfl
theorem kc_40_20 : xe_code 40 20 = some (.iaload, []) := kg_40_0 (i := 11) rfl
theorem kc_40_21 : xe_code 40 21 = some (.iload_n 1, []) := kg_40_0 (i := 12) rfl
theorem kc_40_22 : xe_code 40 22 = some (.if_icmp .ne 45, [67]) := kg_40_0 (i := 13) rfl
theorem kc_40_25 : xe_code 40 25 = some (.aload_n 0, []) := kg_40_0 (i := 14) rfl
theorem kc_40_26 : xe_code 40 26 = some (.getfield 13, [12, 3, 950]) := kg_40_0 (i := 15) rfl
theorem kc_40_29 : xe_code 40 29 = some (.iload_n 1, []) := kg_40_0 (i := 16) rfl
theorem kc_40_30 : xe_code 40 30 = some (.iaload, []) := kg_40_0 (i := 17) rfl
theorem kc_40_31 : xe_code 40 31 = some (.aload_n 0, []) := kg_40_0 (i := 18) rfl
theorem kc_40_32 : xe_code 40 32 = some (.getfield 235, [12, 32, 979]) := kg_40_0 (i := 19) rfl
theorem kc_40_35 : xe_code 40 35 = some (.isub, []) := kg_40_0 (i := 20) rfl
theorem kc_40_36 : xe_code 40 36 = some (.aload_n 0, []) := kg_40_0 (i := 21) rfl
theorem kc_40_37 : xe_code 40 37 = some (.getfield 40, [12, 12, 959]) := kg_40_0 (i := 22) rfl
theorem kc_40_40 : xe_code 40 40 = some (.iload 5, []) := kg_40_0 (i := 23) rfl
theorem kc_40_42 : xe_code 40 42 = some (.iaload, []) := kg_40_0 (i := 24) rfl
theorem kc_40_43 : xe_code 40 43 = some (.imul, []) := kg_40_0 (i := 25) rfl
theorem kc_40_44 : xe_code 40 44 = some (.bipush 100, []) := kg_40_0 (i := 26) rfl
theorem kc_40_46 : xe_code 40 46 = some (.idiv, []) := kg_40_0 (i := 27) rfl
theorem kc_40_47 : xe_code 40 47 = some (.istore 6, []) := kg_40_0 (i := 28) rfl
theorem kc_40_49 : xe_code 40 49 = some (.iload_n 3, []) := kg_40_0 (i := 29) rfl
theorem kc_40_50 : xe_code 40 50 = some (.iload 6, []) := kg_40_0 (i := 30) rfl
theorem kc_40_52 : xe_code 40 52 = some (.ifCond .ge 7, [59]) := kg_40_0 (i := 31) rfl
theorem kc_40_55 : xe_code 40 55 = some (.iconst 0, []) := kg_40_0 (i := 32) rfl
theorem kc_40_56 : xe_code 40 56 = some (.goto 5, [61]) := kg_40_0 (i := 33) rfl
theorem kc_40_59 : xe_code 40 59 = some (.iload 6, []) := kg_40_0 (i := 34) rfl
theorem kc_40_61 : xe_code 40 61 = some (.iadd, []) := kg_40_0 (i := 35) rfl
theorem kc_40_62 : xe_code 40 62 = some (.istore_n 3, []) := kg_40_0 (i := 36) rfl
theorem kc_40_63 : xe_code 40 63 = some (.iload 5, []) := kg_40_0 (i := 37) rfl
theorem kc_40_65 : xe_code 40 65 = some (.istore 4, []) := kg_40_0 (i := 38) rfl
theorem kc_40_67 : xe_code 40 67 = some (.iinc 5 (-1), []) := kg_40_0 (i := 39) rfl
theorem kc_40_70 : xe_code 40 70 = some (.goto (-61), [9]) := kg_40_0 (i := 40) rfl
theorem kc_40_73 : xe_code 40 73 = some (.iload_n 2, []) := kg_40_0 (i := 41) rfl
theorem kc_40_74 : xe_code 40 74 = some (.istore 5, []) := kg_40_0 (i := 42) rfl
theorem kc_40_76 : xe_code 40 76 = some (.iconst 0, []) := kg_40_0 (i := 43) rfl
theorem kc_40_77 : xe_code 40 77 = some (.istore 6, []) := kg_40_0 (i := 44) rfl
theorem kc_40_79 : xe_code 40 79 = some (.iload 6, []) := kg_40_0 (i := 45) rfl
theorem kc_40_81 : xe_code 40 81 = some (.bipush 12, []) := kg_40_0 (i := 46) rfl
theorem kc_40_83 : xe_code 40 83 = some (.if_icmp .ge 96, [179]) := kg_40_0 (i := 47) rfl
theorem kc_40_86 : xe_code 40 86 = some (.iload_n 3, []) := kg_40_1 (i := 0) rfl
theorem kc_40_87 : xe_code 40 87 = some (.ifCond .le 92, [179]) := kg_40_1 (i := 1) rfl
theorem kc_40_90 : xe_code 40 90 = some (.aload_n 0, []) := kg_40_1 (i := 2) rfl
theorem kc_40_91 : xe_code 40 91 = some (.getfield 37, [12, 11, 958]) := kg_40_1 (i := 3) rfl
theorem kc_40_94 : xe_code 40 94 = some (.iload 6, []) := kg_40_1 (i := 4) rfl
theorem kc_40_96 : xe_code 40 96 = some (.iaload, []) := kg_40_1 (i := 5) rfl
theorem kc_40_97 : xe_code 40 97 = some (.iload_n 1, []) := kg_40_1 (i := 6) rfl
theorem kc_40_98 : xe_code 40 98 = some (.if_icmp .ne 75, [173]) := kg_40_1 (i := 7) rfl
theorem kc_40_101 : xe_code 40 101 = some (.aload_n 0, []) := kg_40_1 (i := 8) rfl
theorem kc_40_102 : xe_code 40 102 = some (.getfield 13, [12, 3, 950]) := kg_40_1 (i := 9) rfl
theorem kc_40_105 : xe_code 40 105 = some (.iload_n 1, []) := kg_40_1 (i := 10) rfl
theorem kc_40_106 : xe_code 40 106 = some (.iaload, []) := kg_40_1 (i := 11) rfl
theorem kc_40_107 : xe_code 40 107 = some (.aload_n 0, []) := kg_40_1 (i := 12) rfl
theorem kc_40_108 : xe_code 40 108 = some (.getfield 235, [12, 32, 979]) := kg_40_1 (i := 13) rfl
theorem kc_40_111 : xe_code 40 111 = some (.isub, []) := kg_40_1 (i := 14) rfl
theorem kc_40_112 : xe_code 40 112 = some (.aload_n 0, []) := kg_40_1 (i := 15) rfl
theorem kc_40_113 : xe_code 40 113 = some (.getfield 40, [12, 12, 959]) := kg_40_1 (i := 16) rfl
theorem kc_40_116 : xe_code 40 116 = some (.iload 6, []) := kg_40_1 (i := 17) rfl
theorem kc_40_118 : xe_code 40 118 = some (.iaload, []) := kg_40_1 (i := 18) rfl
theorem kc_40_119 : xe_code 40 119 = some (.imul, []) := kg_40_1 (i := 19) rfl
theorem kc_40_120 : xe_code 40 120 = some (.bipush 100, []) := kg_40_1 (i := 20) rfl
theorem kc_40_122 : xe_code 40 122 = some (.idiv, []) := kg_40_1 (i := 21) rfl
theorem kc_40_123 : xe_code 40 123 = some (.istore 7, []) := kg_40_1 (i := 22) rfl
theorem kc_40_125 : xe_code 40 125 = some (.iload 7, []) := kg_40_1 (i := 23) rfl
theorem kc_40_127 : xe_code 40 127 = some (.ifCond .ge 7, [134]) := kg_40_1 (i := 24) rfl
theorem kc_40_130 : xe_code 40 130 = some (.iconst 0, []) := kg_40_1 (i := 25) rfl
theorem kc_40_131 : xe_code 40 131 = some (.goto 13, [144]) := kg_40_1 (i := 26) rfl
theorem kc_40_134 : xe_code 40 134 = some (.iload_n 2, []) := kg_40_1 (i := 27) rfl
theorem kc_40_135 : xe_code 40 135 = some (.i2l, []) := kg_40_1 (i := 28) rfl
theorem kc_40_136 : xe_code 40 136 = some (.iload 7, []) := kg_40_1 (i := 29) rfl
theorem kc_40_138 : xe_code 40 138 = some (.i2l, []) := kg_40_1 (i := 30) rfl
theorem kc_40_139 : xe_code 40 139 = some (.lmul, []) := kg_40_1 (i := 31) rfl
theorem kc_40_140 : xe_code 40 140 = some (.iload_n 3, []) := kg_40_1 (i := 32) rfl
theorem kc_40_141 : xe_code 40 141 = some (.i2l, []) := kg_40_1 (i := 33) rfl
theorem kc_40_142 : xe_code 40 142 = some (.ldiv, []) := kg_40_1 (i := 34) rfl
theorem kc_40_143 : xe_code 40 143 = some (.l2i, []) := kg_40_1 (i := 35) rfl
theorem kc_40_144 : xe_code 40 144 = some (.istore 8, []) := kg_40_1 (i := 36) rfl
theorem kc_40_146 : xe_code 40 146 = some (.aload_n 0, []) := kg_40_1 (i := 37) rfl
theorem kc_40_147 : xe_code 40 147 = some (.getfield 93, [12, 31, 978]) := kg_40_1 (i := 38) rfl
theorem kc_40_150 : xe_code 40 150 = some (.iload 6, []) := kg_40_1 (i := 39) rfl
theorem kc_40_152 : xe_code 40 152 = some (.aload_n 0, []) := kg_40_1 (i := 40) rfl
theorem kc_40_153 : xe_code 40 153 = some (.getfield 93, [12, 31, 978]) := kg_40_1 (i := 41) rfl
theorem kc_40_156 : xe_code 40 156 = some (.iload 6, []) := kg_40_1 (i := 42) rfl
theorem kc_40_158 : xe_code 40 158 = some (.iaload, []) := kg_40_1 (i := 43) rfl
theorem kc_40_159 : xe_code 40 159 = some (.iload 8, []) := kg_40_1 (i := 44) rfl
theorem kc_40_161 : xe_code 40 161 = some (.iadd, []) := kg_40_1 (i := 45) rfl
theorem kc_40_162 : xe_code 40 162 = some (.invokestatic 232, [39, 1, 1259, 12]) := kg_40_1 (i := 46) rfl
theorem kc_40_165 : xe_code 40 165 = some (.iastore, []) := kg_40_1 (i := 47) rfl
theorem kc_40_166 : xe_code 40 166 = some (.iload 5, []) := kg_40_2 (i := 0) rfl
theorem kc_40_168 : xe_code 40 168 = some (.iload 8, []) := kg_40_2 (i := 1) rfl
theorem kc_40_170 : xe_code 40 170 = some (.isub, []) := kg_40_2 (i := 2) rfl
theorem kc_40_171 : xe_code 40 171 = some (.istore 5, []) := kg_40_2 (i := 3) rfl
theorem kc_40_173 : xe_code 40 173 = some (.iinc 6 1, []) := kg_40_2 (i := 4) rfl
theorem kc_40_176 : xe_code 40 176 = some (.goto (-97), [79]) := kg_40_2 (i := 5) rfl
theorem kc_40_179 : xe_code 40 179 = some (.iload 4, []) := kg_40_2 (i := 6) rfl
theorem kc_40_181 : xe_code 40 181 = some (.ifCond .lt 23, [204]) := kg_40_2 (i := 7) rfl
theorem kc_40_184 : xe_code 40 184 = some (.aload_n 0, []) := kg_40_2 (i := 8) rfl
theorem kc_40_185 : xe_code 40 185 = some (.getfield 93, [12, 31, 978]) := kg_40_2 (i := 9) rfl
theorem kc_40_188 : xe_code 40 188 = some (.iload 4, []) := kg_40_2 (i := 10) rfl
theorem kc_40_190 : xe_code 40 190 = some (.aload_n 0, []) := kg_40_2 (i := 11) rfl
theorem kc_40_191 : xe_code 40 191 = some (.getfield 93, [12, 31, 978]) := kg_40_2 (i := 12) rfl
theorem kc_40_194 : xe_code 40 194 = some (.iload 4, []) := kg_40_2 (i := 13) rfl
theorem kc_40_196 : xe_code 40 196 = some (.iaload, []) := kg_40_2 (i := 14) rfl
theorem kc_40_197 : xe_code 40 197 = some (.iload 5, []) := kg_40_2 (i := 15) rfl
theorem kc_40_199 : xe_code 40 199 = some (.iadd, []) := kg_40_2 (i := 16) rfl
theorem kc_40_200 : xe_code 40 200 = some (.invokestatic 232, [39, 1, 1259, 12]) := kg_40_2 (i := 17) rfl
theorem kc_40_203 : xe_code 40 203 = some (.iastore, []) := kg_40_2 (i := 18) rfl
theorem kc_40_204 : xe_code 40 204 = some (.return_, []) := kg_40_2 (i := 19) rfl
theorem kc_41_0 : xe_code 41 0 = some (.aload_n 0, []) := kg_41_0 (i := 0) rfl
theorem kc_41_1 : xe_code 41 1 = some (.iload_n 1, []) := kg_41_0 (i := 1) rfl
theorem kc_41_2 : xe_code 41 2 = some (.iconst 0, []) := kg_41_0 (i := 2) rfl
theorem kc_41_3 : xe_code 41 3 = some (.aload_n 0, []) := kg_41_0 (i := 3) rfl
theorem kc_41_4 : xe_code 41 4 = some (.invokevirtual 262, [42, 0, 1270, 12]) := kg_41_0 (i := 4) rfl
theorem kc_41_7 : xe_code 41 7 = some (.iconst 1, []) := kg_41_0 (i := 5) rfl
theorem kc_41_8 : xe_code 41 8 = some (.isub, []) := kg_41_0 (i := 6) rfl
theorem kc_41_9 : xe_code 41 9 = some (.invokestatic 173, [11, 3, 1148, 12]) := kg_41_0 (i := 7) rfl
theorem kc_41_12 : xe_code 41 12 = some (.ifCond .eq 7, [19]) := kg_41_0 (i := 8) rfl
theorem kc_41_15 : xe_code 41 15 = some (.iconst 0, []) := kg_41_0 (i := 9) rfl
theorem kc_41_16 : xe_code 41 16 = some (.goto 4, [20]) := kg_41_0 (i := 10) rfl
theorem kc_41_19 : xe_code 41 19 = some (.iconst 1, []) := kg_41_0 (i := 11) rfl
theorem kc_41_20 : xe_code 41 20 = some (.putfield 169, [12, 0, 947]) := kg_41_0 (i := 12) rfl
theorem kc_41_23 : xe_code 41 23 = some (.aload_n 0, []) := kg_41_0 (i := 13) rfl
theorem kc_41_24 : xe_code 41 24 = some (.getfield 169, [12, 0, 947]) := kg_41_0 (i := 14) rfl
theorem kc_41_27 : xe_code 41 27 = some (.ifCond .le 5, [32]) := kg_41_0 (i := 15) rfl
theorem kc_41_30 : xe_code 41 30 = some (.lconst 0, []) := kg_41_0 (i := 16) rfl
theorem kc_41_31 : xe_code 41 31 = some (.lreturn, []) := kg_41_0 (i := 17) rfl
theorem kc_41_32 : xe_code 41 32 = some (.aload_n 0, []) := kg_41_0 (i := 18) rfl
theorem kc_41_33 : xe_code 41 33 = some (.invokevirtual 270, [43, 0, 1274, 12]) := kg_41_0 (i := 19) rfl
theorem kc_41_36 : xe_code 41 36 = some (.aload_n 0, []) := kg_41_0 (i := 20) rfl
theorem kc_41_37 : xe_code 41 37 = some (.getfield 114, [12, 42, 989]) := kg_41_0 (i := 21) rfl
theorem kc_41_40 : xe_code 41 40 = some (.iload_n 1, []) := kg_41_0 (i := 22) rfl
theorem kc_41_41 : xe_code 41 41 = some (.laload, []) := kg_41_0 (i := 23) rfl
theorem kc_41_42 : xe_code 41 42 = some (.lreturn, []) := kg_41_0 (i := 24) rfl
theorem kc_42_0 : xe_code 42 0 = some (.iconst 1, []) := kg_42_0 (i := 0) rfl
theorem kc_42_1 : xe_code 42 1 = some (.aload_n 0, []) := kg_42_0 (i := 1) rfl
theorem kc_42_2 : xe_code 42 2 = some (.getfield 225, [12, 23, 970]) := kg_42_0 (i := 2) rfl
theorem kc_42_5 : xe_code 42 5 = some (.bipush 6, []) := kg_42_0 (i := 3) rfl
theorem kc_42_7 : xe_code 42 7 = some (.if_icmp .ge 10, [17]) := kg_42_0 (i := 4) rfl
theorem kc_42_10 : xe_code 42 10 = some (.aload_n 0, []) := kg_42_0 (i := 5) rfl
theorem kc_42_11 : xe_code 42 11 = some (.getfield 225, [12, 23, 970]) := kg_42_0 (i := 6) rfl
theorem kc_42_14 : xe_code 42 14 = some (.goto 5, [19]) := kg_42_0 (i := 7) rfl
theorem kc_42_17 : xe_code 42 17 = some (.bipush 6, []) := kg_42_0 (i := 8) rfl
theorem kc_42_19 : xe_code 42 19 = some (.ishl, []) := kg_42_0 (i := 9) rfl
theorem kc_42_20 : xe_code 42 20 = some (.ireturn, []) := kg_42_0 (i := 10) rfl
theorem kc_43_0 : xe_code 43 0 = some (.aload_n 0, []) := kg_43_0 (i := 0) rfl
theorem kc_43_1 : xe_code 43 1 = some (.getfield 181, [12, 41, 988]) := kg_43_0 (i := 1) rfl
theorem kc_43_4 : xe_code 43 4 = some (.ifCond .eq 4, [8]) := kg_43_0 (i := 2) rfl
theorem kc_43_7 : xe_code 43 7 = some (.return_, []) := kg_43_0 (i := 3) rfl
theorem kc_43_8 : xe_code 43 8 = some (.aload_n 0, []) := kg_43_0 (i := 4) rfl
theorem kc_43_9 : xe_code 43 9 = some (.iconst 1, []) := kg_43_0 (i := 5) rfl
theorem kc_43_10 : xe_code 43 10 = some (.putfield 181, [12, 41, 988]) := kg_43_0 (i := 6) rfl
theorem kc_43_13 : xe_code 43 13 = some (.aload_n 0, []) := kg_43_0 (i := 7) rfl
theorem kc_43_14 : xe_code 43 14 = some (.invokevirtual 259, [44, 0, 1278, 12]) := kg_43_0 (i := 8) rfl
theorem kc_43_17 : xe_code 43 17 = some (.iconst 0, []) := kg_43_0 (i := 9) rfl
theorem kc_43_18 : xe_code 43 18 = some (.istore_n 1, []) := kg_43_0 (i := 10) rfl
theorem kc_43_19 : xe_code 43 19 = some (.iload_n 1, []) := kg_43_0 (i := 11) rfl
theorem kc_43_20 : xe_code 43 20 = some (.aload_n 0, []) := kg_43_0 (i := 12) rfl
theorem kc_43_21 : xe_code 43 21 = some (.invokevirtual 262, [42, 0, 1270, 12]) := kg_43_0 (i := 13) rfl
theorem kc_43_24 : xe_code 43 24 = some (.if_icmp .ge 20, [44]) := kg_43_0 (i := 14) rfl
theorem kc_43_27 : xe_code 43 27 = some (.aload_n 0, []) := kg_43_0 (i := 15) rfl
theorem kc_43_28 : xe_code 43 28 = some (.getfield 114, [12, 42, 989]) := kg_43_0 (i := 16) rfl
theorem kc_43_31 : xe_code 43 31 = some (.iload_n 1, []) := kg_43_0 (i := 17) rfl
theorem kc_43_32 : xe_code 43 32 = some (.aload_n 0, []) := kg_43_0 (i := 18) rfl
theorem kc_43_33 : xe_code 43 33 = some (.iload_n 1, []) := kg_43_0 (i := 19) rfl
theorem kc_43_34 : xe_code 43 34 = some (.invokevirtual 266, [45, 1, 1282, 12]) := kg_43_0 (i := 20) rfl
theorem kc_43_37 : xe_code 43 37 = some (.lastore, []) := kg_43_0 (i := 21) rfl
theorem kc_43_38 : xe_code 43 38 = some (.iinc 1 1, []) := kg_43_0 (i := 22) rfl
theorem kc_43_41 : xe_code 43 41 = some (.goto (-22), [19]) := kg_43_0 (i := 23) rfl
theorem kc_43_44 : xe_code 43 44 = some (.return_, []) := kg_43_0 (i := 24) rfl
theorem kc_44_0 : xe_code 44 0 = some (.iconst 5, []) := kg_44_0 (i := 0) rfl
theorem kc_44_1 : xe_code 44 1 = some (.istore_n 1, []) := kg_44_0 (i := 1) rfl
theorem kc_44_2 : xe_code 44 2 = some (.iconst 0, []) := kg_44_0 (i := 2) rfl
theorem kc_44_3 : xe_code 44 3 = some (.istore_n 2, []) := kg_44_0 (i := 3) rfl
theorem kc_44_4 : xe_code 44 4 = some (.iconst 0, []) := kg_44_0 (i := 4) rfl
theorem kc_44_5 : xe_code 44 5 = some (.istore_n 3, []) := kg_44_0 (i := 5) rfl
theorem kc_44_6 : xe_code 44 6 = some (.iload_n 3, []) := kg_44_0 (i := 6) rfl
theorem kc_44_7 : xe_code 44 7 = some (.sipush 600, []) := kg_44_0 (i := 7) rfl
theorem kc_44_10 : xe_code 44 10 = some (.if_icmp .ge 67, [77]) := kg_44_0 (i := 8) rfl
theorem kc_44_13 : xe_code 44 13 = some (.aload_n 0, []) := kg_44_0 (i := 9) rfl
theorem kc_44_14 : xe_code 44 14 = some (.getfield 31, [12, 9, 956]) := kg_44_0 (i := 10) rfl
theorem kc_44_17 : xe_code 44 17 = some (.iload_n 3, []) := kg_44_0 (i := 11) rfl
theorem kc_44_18 : xe_code 44 18 = some (.iaload, []) := kg_44_0 (i := 12) rfl
theorem kc_44_19 : xe_code 44 19 = some (.bipush 99, []) := kg_44_0 (i := 13) rfl
theorem kc_44_21 : xe_code 44 21 = some (.if_icmp .ne 7, [28]) := kg_44_0 (i := 14) rfl
theorem kc_44_24 : xe_code 44 24 = some (.iload_n 1, []) := kg_44_0 (i := 15) rfl
theorem kc_44_25 : xe_code 44 25 = some (.goto 9, [34]) := kg_44_0 (i := 16) rfl
theorem kc_44_28 : xe_code 44 28 = some (.aload_n 0, []) := kg_44_0 (i := 17) rfl
theorem kc_44_29 : xe_code 44 29 = some (.getfield 31, [12, 9, 956]) := kg_44_0 (i := 18) rfl
theorem kc_44_32 : xe_code 44 32 = some (.iload_n 3, []) := kg_44_0 (i := 19) rfl
theorem kc_44_33 : xe_code 44 33 = some (.iaload, []) := kg_44_0 (i := 20) rfl
theorem kc_44_34 : xe_code 44 34 = some (.istore_n 1, []) := kg_44_0 (i := 21) rfl
theorem kc_44_35 : xe_code 44 35 = some (.aload_n 0, []) := kg_44_0 (i := 22) rfl
theorem kc_44_36 : xe_code 44 36 = some (.getfield 34, [12, 10, 957]) := kg_44_0 (i := 23) rfl
theorem kc_44_39 : xe_code 44 39 = some (.iload_n 3, []) := kg_44_0 (i := 24) rfl
theorem kc_44_40 : xe_code 44 40 = some (.iaload, []) := kg_44_0 (i := 25) rfl
theorem kc_44_41 : xe_code 44 41 = some (.bipush 99, []) := kg_44_0 (i := 26) rfl
theorem kc_44_43 : xe_code 44 43 = some (.if_icmp .ne 7, [50]) := kg_44_0 (i := 27) rfl
theorem kc_44_46 : xe_code 44 46 = some (.iload_n 2, []) := kg_44_0 (i := 28) rfl
theorem kc_44_47 : xe_code 44 47 = some (.goto 9, [56]) := kg_44_0 (i := 29) rfl
theorem kc_44_50 : xe_code 44 50 = some (.aload_n 0, []) := kg_44_0 (i := 30) rfl
theorem kc_44_51 : xe_code 44 51 = some (.getfield 34, [12, 10, 957]) := kg_44_0 (i := 31) rfl
theorem kc_44_54 : xe_code 44 54 = some (.iload_n 3, []) := kg_44_0 (i := 32) rfl
theorem kc_44_55 : xe_code 44 55 = some (.iaload, []) := kg_44_0 (i := 33) rfl
theorem kc_44_56 : xe_code 44 56 = some (.istore_n 2, []) := kg_44_0 (i := 34) rfl
theorem kc_44_57 : xe_code 44 57 = some (.aload_n 0, []) := kg_44_0 (i := 35) rfl
theorem kc_44_58 : xe_code 44 58 = some (.getfield 118, [12, 43, 990]) := kg_44_0 (i := 36) rfl
theorem kc_44_61 : xe_code 44 61 = some (.iload_n 3, []) := kg_44_0 (i := 37) rfl
theorem kc_44_62 : xe_code 44 62 = some (.iload_n 1, []) := kg_44_0 (i := 38) rfl
theorem kc_44_63 : xe_code 44 63 = some (.iastore, []) := kg_44_0 (i := 39) rfl
theorem kc_44_64 : xe_code 44 64 = some (.aload_n 0, []) := kg_44_0 (i := 40) rfl
theorem kc_44_65 : xe_code 44 65 = some (.getfield 121, [12, 44, 991]) := kg_44_0 (i := 41) rfl
theorem kc_44_68 : xe_code 44 68 = some (.iload_n 3, []) := kg_44_0 (i := 42) rfl
theorem kc_44_69 : xe_code 44 69 = some (.iload_n 2, []) := kg_44_0 (i := 43) rfl
theorem kc_44_70 : xe_code 44 70 = some (.iastore, []) := kg_44_0 (i := 44) rfl
theorem kc_44_71 : xe_code 44 71 = some (.iinc 3 1, []) := kg_44_0 (i := 45) rfl
theorem kc_44_74 : xe_code 44 74 = some (.goto (-68), [6]) := kg_44_0 (i := 46) rfl
theorem kc_44_77 : xe_code 44 77 = some (.return_, []) := kg_44_0 (i := 47) rfl
theorem kc_45_0 : xe_code 45 0 = some (.lconst 0, []) := kg_45_0 (i := 0) rfl
theorem kc_45_1 : xe_code 45 1 = some (.lstore_n 2, []) := kg_45_0 (i := 1) rfl
theorem kc_45_2 : xe_code 45 2 = some (.iconst 0, []) := kg_45_0 (i := 2) rfl
theorem kc_45_3 : xe_code 45 3 = some (.istore 4, []) := kg_45_0 (i := 3) rfl
theorem kc_45_5 : xe_code 45 5 = some (.iconst 0, []) := kg_45_0 (i := 4) rfl
theorem kc_45_6 : xe_code 45 6 = some (.istore 5, []) := kg_45_0 (i := 5) rfl
theorem kc_45_8 : xe_code 45 8 = some (.iload 5, []) := kg_45_0 (i := 6) rfl
theorem kc_45_10 : xe_code 45 10 = some (.bipush 6, []) := kg_45_0 (i := 7) rfl
theorem kc_45_12 : xe_code 45 12 = some (.if_icmp .ge 17, [29]) := kg_45_0 (i := 8) rfl
theorem kc_45_15 : xe_code 45 15 = some (.aload_n 0, []) := kg_45_0 (i := 9) rfl
theorem kc_45_16 : xe_code 45 16 = some (.getfield 90, [12, 30, 977]) := kg_45_0 (i := 10) rfl
theorem kc_45_19 : xe_code 45 19 = some (.iload 5, []) := kg_45_0 (i := 11) rfl
theorem kc_45_21 : xe_code 45 21 = some (.iconst 0, []) := kg_45_0 (i := 12) rfl
theorem kc_45_22 : xe_code 45 22 = some (.iastore, []) := kg_45_0 (i := 13) rfl
theorem kc_45_23 : xe_code 45 23 = some (.iinc 5 1, []) := kg_45_0 (i := 14) rfl
theorem kc_45_26 : xe_code 45 26 = some (.goto (-18), [8]) := kg_45_0 (i := 15) rfl
theorem kc_45_29 : xe_code 45 29 = some (.iconst 0, []) := kg_45_0 (i := 16) rfl
theorem kc_45_30 : xe_code 45 30 = some (.istore 5, []) := kg_45_0 (i := 17) rfl
theorem kc_45_32 : xe_code 45 32 = some (.iload 5, []) := kg_45_0 (i := 18) rfl
theorem kc_45_34 : xe_code 45 34 = some (.bipush 12, []) := kg_45_0 (i := 19) rfl
theorem kc_45_36 : xe_code 45 36 = some (.if_icmp .ge 17, [53]) := kg_45_0 (i := 20) rfl
theorem kc_45_39 : xe_code 45 39 = some (.aload_n 0, []) := kg_45_0 (i := 21) rfl
theorem kc_45_40 : xe_code 45 40 = some (.getfield 93, [12, 31, 978]) := kg_45_0 (i := 22) rfl
theorem kc_45_43 : xe_code 45 43 = some (.iload 5, []) := kg_45_0 (i := 23) rfl
theorem kc_45_45 : xe_code 45 45 = some (.iconst 0, []) := kg_45_0 (i := 24) rfl
theorem kc_45_46 : xe_code 45 46 = some (.iastore, []) := kg_45_0 (i := 25) rfl
theorem kc_45_47 : xe_code 45 47 = some (.iinc 5 1, []) := kg_45_0 (i := 26) rfl
theorem kc_45_50 : xe_code 45 50 = some (.goto (-18), [32]) := kg_45_0 (i := 27) rfl
theorem kc_45_53 : xe_code 45 53 = some (.iconst 0, []) := kg_45_0 (i := 28) rfl
theorem kc_45_54 : xe_code 45 54 = some (.istore 5, []) := kg_45_0 (i := 29) rfl
theorem kc_45_56 : xe_code 45 56 = some (.iload 5, []) := kg_45_0 (i := 30) rfl
theorem kc_45_58 : xe_code 45 58 = some (.aload_n 0, []) := kg_45_0 (i := 31) rfl
theorem kc_45_59 : xe_code 45 59 = some (.getfield 213, [12, 1, 948]) := kg_45_0 (i := 32) rfl
theorem kc_45_62 : xe_code 45 62 = some (.if_icmp .gt 159, [221]) := kg_45_0 (i := 33) rfl
theorem kc_45_65 : xe_code 45 65 = some (.iload 4, []) := kg_45_0 (i := 34) rfl
theorem kc_45_67 : xe_code 45 67 = some (.aload_n 0, []) := kg_45_0 (i := 35) rfl
theorem kc_45_68 : xe_code 45 68 = some (.getfield 222, [12, 18, 965]) := kg_45_0 (i := 36) rfl
theorem kc_45_71 : xe_code 45 71 = some (.if_icmp .ge 105, [176]) := kg_45_0 (i := 37) rfl
theorem kc_45_74 : xe_code 45 74 = some (.aload_n 0, []) := kg_45_0 (i := 38) rfl
theorem kc_45_75 : xe_code 45 75 = some (.getfield 63, [12, 20, 967]) := kg_45_0 (i := 39) rfl
theorem kc_45_78 : xe_code 45 78 = some (.iload 4, []) := kg_45_0 (i := 40) rfl
theorem kc_45_80 : xe_code 45 80 = some (.iaload, []) := kg_45_0 (i := 41) rfl
theorem kc_45_81 : xe_code 45 81 = some (.iload 5, []) := kg_45_0 (i := 42) rfl
theorem kc_45_83 : xe_code 45 83 = some (.if_icmp .ne 93, [176]) := kg_45_0 (i := 43) rfl
theorem kc_45_86 : xe_code 45 86 = some (.aload_n 0, []) := kg_45_0 (i := 44) rfl
theorem kc_45_87 : xe_code 45 87 = some (.getfield 93, [12, 31, 978]) := kg_45_0 (i := 45) rfl
theorem kc_45_90 : xe_code 45 90 = some (.aload_n 0, []) := kg_45_0 (i := 46) rfl
theorem kc_45_91 : xe_code 45 91 = some (.getfield 60, [12, 19, 966]) := kg_45_0 (i := 47) rfl
theorem kc_45_94 : xe_code 45 94 = some (.iload 4, []) := kg_45_1 (i := 0) rfl
theorem kc_45_96 : xe_code 45 96 = some (.iaload, []) := kg_45_1 (i := 1) rfl
theorem kc_45_97 : xe_code 45 97 = some (.iaload, []) := kg_45_1 (i := 2) rfl
theorem kc_45_98 : xe_code 45 98 = some (.istore 6, []) := kg_45_1 (i := 3) rfl
theorem kc_45_100 : xe_code 45 100 = some (.aload_n 0, []) := kg_45_1 (i := 4) rfl
theorem kc_45_101 : xe_code 45 101 = some (.getfield 66, [12, 21, 968]) := kg_45_1 (i := 5) rfl
theorem kc_45_104 : xe_code 45 104 = some (.iload 4, []) := kg_45_1 (i := 6) rfl
theorem kc_45_106 : xe_code 45 106 = some (.iaload, []) := kg_45_1 (i := 7) rfl
theorem kc_45_107 : xe_code 45 107 = some (.aload_n 0, []) := kg_45_1 (i := 8) rfl
theorem kc_45_108 : xe_code 45 108 = some (.getfield 69, [12, 22, 969]) := kg_45_1 (i := 9) rfl
theorem kc_45_111 : xe_code 45 111 = some (.iload 4, []) := kg_45_1 (i := 10) rfl
theorem kc_45_113 : xe_code 45 113 = some (.iaload, []) := kg_45_1 (i := 11) rfl
theorem kc_45_114 : xe_code 45 114 = some (.isub, []) := kg_45_1 (i := 12) rfl
theorem kc_45_115 : xe_code 45 115 = some (.istore 7, []) := kg_45_1 (i := 13) rfl
theorem kc_45_117 : xe_code 45 117 = some (.aload_n 0, []) := kg_45_1 (i := 14) rfl
theorem kc_45_118 : xe_code 45 118 = some (.getfield 66, [12, 21, 968]) := kg_45_1 (i := 15) rfl
theorem kc_45_121 : xe_code 45 121 = some (.iload 4, []) := kg_45_1 (i := 16) rfl
theorem kc_45_123 : xe_code 45 123 = some (.iaload, []) := kg_45_1 (i := 17) rfl
theorem kc_45_124 : xe_code 45 124 = some (.aload_n 0, []) := kg_45_1 (i := 18) rfl
theorem kc_45_125 : xe_code 45 125 = some (.getfield 69, [12, 22, 969]) := kg_45_1 (i := 19) rfl
theorem kc_45_128 : xe_code 45 128 = some (.iload 4, []) := kg_45_1 (i := 20) rfl
theorem kc_45_130 : xe_code 45 130 = some (.iaload, []) := kg_45_1 (i := 21) rfl
theorem kc_45_131 : xe_code 45 131 = some (.iadd, []) := kg_45_1 (i := 22) rfl
theorem kc_45_132 : xe_code 45 132 = some (.istore 8, []) := kg_45_1 (i := 23) rfl
theorem kc_45_134 : xe_code 45 134 = some (.lload_n 2, []) := kg_45_1 (i := 24) rfl
theorem kc_45_135 : xe_code 45 135 = some (.iload 6, []) := kg_45_1 (i := 25) rfl
theorem kc_45_137 : xe_code 45 137 = some (.iload 7, []) := kg_45_1 (i := 26) rfl
theorem kc_45_139 : xe_code 45 139 = some (.if_icmp .ge 12, [151]) := kg_45_1 (i := 27) rfl
theorem kc_45_142 : xe_code 45 142 = some (.iload 7, []) := kg_45_1 (i := 28) rfl
theorem kc_45_144 : xe_code 45 144 = some (.iload 6, []) := kg_45_1 (i := 29) rfl
theorem kc_45_146 : xe_code 45 146 = some (.isub, []) := kg_45_1 (i := 30) rfl
theorem kc_45_147 : xe_code 45 147 = some (.i2l, []) := kg_45_1 (i := 31) rfl
theorem kc_45_148 : xe_code 45 148 = some (.goto 20, [168]) := kg_45_1 (i := 32) rfl
theorem kc_45_151 : xe_code 45 151 = some (.iload 6, []) := kg_45_1 (i := 33) rfl
theorem kc_45_153 : xe_code 45 153 = some (.iload 8, []) := kg_45_1 (i := 34) rfl
theorem kc_45_155 : xe_code 45 155 = some (.if_icmp .le 12, [167]) := kg_45_1 (i := 35) rfl
theorem kc_45_158 : xe_code 45 158 = some (.iload 6, []) := kg_45_1 (i := 36) rfl
theorem kc_45_160 : xe_code 45 160 = some (.iload 8, []) := kg_45_1 (i := 37) rfl
theorem kc_45_162 : xe_code 45 162 = some (.isub, []) := kg_45_1 (i := 38) rfl
theorem kc_45_163 : xe_code 45 163 = some (.i2l, []) := kg_45_1 (i := 39) rfl
theorem kc_45_164 : xe_code 45 164 = some (.goto 4, [168]) := kg_45_1 (i := 40) rfl
theorem kc_45_167 : xe_code 45 167 = some (.lconst 0, []) := kg_45_1 (i := 41) rfl
theorem kc_45_168 : xe_code 45 168 = some (.ladd, []) := kg_45_1 (i := 42) rfl
theorem kc_45_169 : xe_code 45 169 = some (.lstore_n 2, []) := kg_45_1 (i := 43) rfl
theorem kc_45_170 : xe_code 45 170 = some (.iinc 4 1, []) := kg_45_1 (i := 44) rfl
theorem kc_45_173 : xe_code 45 173 = some (.goto (-108), [65]) := kg_45_1 (i := 45) rfl
theorem kc_45_176 : xe_code 45 176 = some (.iload 5, []) := kg_45_1 (i := 46) rfl
theorem kc_45_178 : xe_code 45 178 = some (.aload_n 0, []) := kg_45_1 (i := 47) rfl
theorem kc_45_179 : xe_code 45 179 = some (.getfield 213, [12, 1, 948]) := kg_45_2 (i := 0) rfl
theorem kc_45_182 : xe_code 45 182 = some (.if_icmp .ge 33, [215]) := kg_45_2 (i := 1) rfl
theorem kc_45_185 : xe_code 45 185 = some (.aload_n 0, []) := kg_45_2 (i := 2) rfl
theorem kc_45_186 : xe_code 45 186 = some (.aload_n 0, []) := kg_45_2 (i := 3) rfl
theorem kc_45_187 : xe_code 45 187 = some (.getfield 118, [12, 43, 990]) := kg_45_2 (i := 4) rfl
theorem kc_45_190 : xe_code 45 190 = some (.iload 5, []) := kg_45_2 (i := 5) rfl
theorem kc_45_192 : xe_code 45 192 = some (.iaload, []) := kg_45_2 (i := 6) rfl
theorem kc_45_193 : xe_code 45 193 = some (.putfield 235, [12, 32, 979]) := kg_45_2 (i := 7) rfl
theorem kc_45_196 : xe_code 45 196 = some (.aload_n 0, []) := kg_45_2 (i := 8) rfl
theorem kc_45_197 : xe_code 45 197 = some (.aload_n 0, []) := kg_45_2 (i := 9) rfl
theorem kc_45_198 : xe_code 45 198 = some (.getfield 121, [12, 44, 991]) := kg_45_2 (i := 10) rfl
theorem kc_45_201 : xe_code 45 201 = some (.iload 5, []) := kg_45_2 (i := 11) rfl
theorem kc_45_203 : xe_code 45 203 = some (.iaload, []) := kg_45_2 (i := 12) rfl
theorem kc_45_204 : xe_code 45 204 = some (.putfield 246, [12, 33, 980]) := kg_45_2 (i := 13) rfl
theorem kc_45_207 : xe_code 45 207 = some (.aload_n 0, []) := kg_45_2 (i := 14) rfl
theorem kc_45_208 : xe_code 45 208 = some (.iload_n 1, []) := kg_45_2 (i := 15) rfl
theorem kc_45_209 : xe_code 45 209 = some (.iconst 0, []) := kg_45_2 (i := 16) rfl
theorem kc_45_210 : xe_code 45 210 = some (.iload 5, []) := kg_45_2 (i := 17) rfl
theorem kc_45_212 : xe_code 45 212 = some (.invokevirtual 252, [36, 3, 1247, 12]) := kg_45_2 (i := 18) rfl
theorem kc_45_215 : xe_code 45 215 = some (.iinc 5 1, []) := kg_45_2 (i := 19) rfl
theorem kc_45_218 : xe_code 45 218 = some (.goto (-162), [56]) := kg_45_2 (i := 20) rfl
theorem kc_45_221 : xe_code 45 221 = some (.lload_n 2, []) := kg_45_2 (i := 21) rfl
theorem kc_45_222 : xe_code 45 222 = some (.lreturn, []) := kg_45_2 (i := 22) rfl
theorem kc_46_0 : xe_code 46 0 = some (.aload_n 0, []) := kg_46_0 (i := 0) rfl
theorem kc_46_1 : xe_code 46 1 = some (.iconst 0, []) := kg_46_0 (i := 1) rfl
theorem kc_46_2 : xe_code 46 2 = some (.putfield 169, [12, 0, 947]) := kg_46_0 (i := 2) rfl
theorem kc_46_5 : xe_code 46 5 = some (.aload_n 0, []) := kg_46_0 (i := 3) rfl
theorem kc_46_6 : xe_code 46 6 = some (.iload_n 2, []) := kg_46_0 (i := 4) rfl
theorem kc_46_7 : xe_code 46 7 = some (.invokevirtual 219, [31, 1, 1227, 12]) := kg_46_0 (i := 5) rfl
theorem kc_46_10 : xe_code 46 10 = some (.ifCond .ne 9, [19]) := kg_46_0 (i := 6) rfl
theorem kc_46_13 : xe_code 46 13 = some (.aload_n 0, []) := kg_46_0 (i := 7) rfl
theorem kc_46_14 : xe_code 46 14 = some (.iconst (-1), []) := kg_46_0 (i := 8) rfl
theorem kc_46_15 : xe_code 46 15 = some (.invokevirtual 188, [12, 1, 1151, 12]) := kg_46_0 (i := 9) rfl
theorem kc_46_18 : xe_code 46 18 = some (.ireturn, []) := kg_46_0 (i := 10) rfl
theorem kc_46_19 : xe_code 46 19 = some (.iload_n 1, []) := kg_46_0 (i := 11) rfl
theorem kc_46_20 : xe_code 46 20 = some (.iconst 0, []) := kg_46_0 (i := 12) rfl
theorem kc_46_21 : xe_code 46 21 = some (.aload_n 0, []) := kg_46_0 (i := 13) rfl
theorem kc_46_22 : xe_code 46 22 = some (.invokevirtual 262, [42, 0, 1270, 12]) := kg_46_0 (i := 14) rfl
theorem kc_46_25 : xe_code 46 25 = some (.iconst 1, []) := kg_46_0 (i := 15) rfl
theorem kc_46_26 : xe_code 46 26 = some (.isub, []) := kg_46_0 (i := 16) rfl
theorem kc_46_27 : xe_code 46 27 = some (.invokestatic 173, [11, 3, 1148, 12]) := kg_46_0 (i := 17) rfl
theorem kc_46_30 : xe_code 46 30 = some (.ifCond .ne 10, [40]) := kg_46_0 (i := 18) rfl
theorem kc_46_33 : xe_code 46 33 = some (.aload_n 0, []) := kg_46_0 (i := 19) rfl
theorem kc_46_34 : xe_code 46 34 = some (.bipush (-2), []) := kg_46_0 (i := 20) rfl
theorem kc_46_36 : xe_code 46 36 = some (.invokevirtual 188, [12, 1, 1151, 12]) := kg_46_0 (i := 21) rfl
theorem kc_46_39 : xe_code 46 39 = some (.ireturn, []) := kg_46_0 (i := 22) rfl
theorem kc_46_40 : xe_code 46 40 = some (.aload_n 0, []) := kg_46_0 (i := 23) rfl
theorem kc_46_41 : xe_code 46 41 = some (.invokevirtual 259, [44, 0, 1278, 12]) := kg_46_0 (i := 24) rfl
theorem kc_46_44 : xe_code 46 44 = some (.aload_n 0, []) := kg_46_0 (i := 25) rfl
theorem kc_46_45 : xe_code 46 45 = some (.iload_n 1, []) := kg_46_0 (i := 26) rfl
theorem kc_46_46 : xe_code 46 46 = some (.invokevirtual 266, [45, 1, 1282, 12]) := kg_46_0 (i := 27) rfl
theorem kc_46_49 : xe_code 46 49 = some (.lstore_n 3, []) := kg_46_0 (i := 28) rfl
theorem kc_46_50 : xe_code 46 50 = some (.aload_n 0, []) := kg_46_0 (i := 29) rfl
theorem kc_46_51 : xe_code 46 51 = some (.getfield 93, [12, 31, 978]) := kg_46_0 (i := 30) rfl
theorem kc_46_54 : xe_code 46 54 = some (.iload_n 2, []) := kg_46_0 (i := 31) rfl
theorem kc_46_55 : xe_code 46 55 = some (.iaload, []) := kg_46_0 (i := 32) rfl
theorem kc_46_56 : xe_code 46 56 = some (.ireturn, []) := kg_46_0 (i := 33) rfl
theorem kc_47_0 : xe_code 47 0 = some (.aload_n 0, []) := kg_47_0 (i := 0) rfl
theorem kc_47_1 : xe_code 47 1 = some (.iconst 0, []) := kg_47_0 (i := 1) rfl
theorem kc_47_2 : xe_code 47 2 = some (.putfield 169, [12, 0, 947]) := kg_47_0 (i := 2) rfl
theorem kc_47_5 : xe_code 47 5 = some (.aload_n 0, []) := kg_47_0 (i := 3) rfl
theorem kc_47_6 : xe_code 47 6 = some (.invokevirtual 276, [48, 0, 1294, 12]) := kg_47_0 (i := 4) rfl
theorem kc_47_9 : xe_code 47 9 = some (.ireturn, []) := kg_47_0 (i := 5) rfl
theorem kc_48_0 : xe_code 48 0 = some (.aload_n 0, []) := kg_48_0 (i := 0) rfl
theorem kc_48_1 : xe_code 48 1 = some (.invokevirtual 270, [43, 0, 1274, 12]) := kg_48_0 (i := 1) rfl
theorem kc_48_4 : xe_code 48 4 = some (.iconst 0, []) := kg_48_0 (i := 2) rfl
theorem kc_48_5 : xe_code 48 5 = some (.istore_n 1, []) := kg_48_0 (i := 3) rfl
theorem kc_48_6 : xe_code 48 6 = some (.iconst 1, []) := kg_48_0 (i := 4) rfl
theorem kc_48_7 : xe_code 48 7 = some (.istore_n 2, []) := kg_48_0 (i := 5) rfl
theorem kc_48_8 : xe_code 48 8 = some (.iload_n 2, []) := kg_48_0 (i := 6) rfl
theorem kc_48_9 : xe_code 48 9 = some (.aload_n 0, []) := kg_48_0 (i := 7) rfl
theorem kc_48_10 : xe_code 48 10 = some (.invokevirtual 262, [42, 0, 1270, 12]) := kg_48_0 (i := 8) rfl
theorem kc_48_13 : xe_code 48 13 = some (.if_icmp .ge 68, [81]) := kg_48_0 (i := 9) rfl
theorem kc_48_16 : xe_code 48 16 = some (.aload_n 0, []) := kg_48_0 (i := 10) rfl
theorem kc_48_17 : xe_code 48 17 = some (.getfield 114, [12, 42, 989]) := kg_48_0 (i := 11) rfl
theorem kc_48_20 : xe_code 48 20 = some (.iload_n 2, []) := kg_48_0 (i := 12) rfl
theorem kc_48_21 : xe_code 48 21 = some (.laload, []) := kg_48_0 (i := 13) rfl
theorem kc_48_22 : xe_code 48 22 = some (.aload_n 0, []) := kg_48_0 (i := 14) rfl
theorem kc_48_23 : xe_code 48 23 = some (.getfield 114, [12, 42, 989]) := kg_48_0 (i := 15) rfl
theorem kc_48_26 : xe_code 48 26 = some (.iload_n 1, []) := kg_48_0 (i := 16) rfl
theorem kc_48_27 : xe_code 48 27 = some (.laload, []) := kg_48_0 (i := 17) rfl
theorem kc_48_28 : xe_code 48 28 = some (.lcmp, []) := kg_48_0 (i := 18) rfl
theorem kc_48_29 : xe_code 48 29 = some (.ifCond .lt 30, [59]) := kg_48_0 (i := 19) rfl
theorem kc_48_32 : xe_code 48 32 = some (.aload_n 0, []) := kg_48_0 (i := 20) rfl
theorem kc_48_33 : xe_code 48 33 = some (.getfield 114, [12, 42, 989]) := kg_48_0 (i := 21) rfl
theorem kc_48_36 : xe_code 48 36 = some (.iload_n 2, []) := kg_48_0 (i := 22) rfl
theorem kc_48_37 : xe_code 48 37 = some (.laload, []) := kg_48_0 (i := 23) rfl
theorem kc_48_38 : xe_code 48 38 = some (.aload_n 0, []) := kg_48_0 (i := 24) rfl
theorem kc_48_39 : xe_code 48 39 = some (.getfield 114, [12, 42, 989]) := kg_48_0 (i := 25) rfl
theorem kc_48_42 : xe_code 48 42 = some (.iload_n 1, []) := kg_48_0 (i := 26) rfl
theorem kc_48_43 : xe_code 48 43 = some (.laload, []) := kg_48_0 (i := 27) rfl
theorem kc_48_44 : xe_code 48 44 = some (.lcmp, []) := kg_48_0 (i := 28) rfl
theorem kc_48_45 : xe_code 48 45 = some (.ifCond .ne 18, [63]) := kg_48_0 (i := 29) rfl
theorem kc_48_48 : xe_code 48 48 = some (.iload_n 2, []) := kg_48_0 (i := 30) rfl
theorem kc_48_49 : xe_code 48 49 = some (.invokestatic 273, [49, 1, 1298, 12]) := kg_48_0 (i := 31) rfl
theorem kc_48_52 : xe_code 48 52 = some (.iload_n 1, []) := kg_48_0 (i := 32) rfl
theorem kc_48_53 : xe_code 48 53 = some (.invokestatic 273, [49, 1, 1298, 12]) := kg_48_0 (i := 33) rfl
theorem kc_48_56 : xe_code 48 56 = some (.if_icmp .ge 7, [63]) := kg_48_0 (i := 34) rfl
theorem kc_48_59 : xe_code 48 59 = some (.iconst 1, []) := kg_48_0 (i := 35) rfl
theorem kc_48_60 : xe_code 48 60 = some (.goto 4, [64]) := kg_48_0 (i := 36) rfl
theorem kc_48_63 : xe_code 48 63 = some (.iconst 0, []) := kg_48_0 (i := 37) rfl
theorem kc_48_64 : xe_code 48 64 = some (.istore_n 3, []) := kg_48_0 (i := 38) rfl
theorem kc_48_65 : xe_code 48 65 = some (.iload_n 3, []) := kg_48_0 (i := 39) rfl
theorem kc_48_66 : xe_code 48 66 = some (.ifCond .eq 7, [73]) := kg_48_0 (i := 40) rfl
theorem kc_48_69 : xe_code 48 69 = some (.iload_n 2, []) := kg_48_0 (i := 41) rfl
theorem kc_48_70 : xe_code 48 70 = some (.goto 4, [74]) := kg_48_0 (i := 42) rfl
theorem kc_48_73 : xe_code 48 73 = some (.iload_n 1, []) := kg_48_0 (i := 43) rfl
theorem kc_48_74 : xe_code 48 74 = some (.istore_n 1, []) := kg_48_0 (i := 44) rfl
theorem kc_48_75 : xe_code 48 75 = some (.iinc 2 1, []) := kg_48_0 (i := 45) rfl
theorem kc_48_78 : xe_code 48 78 = some (.goto (-70), [8]) := kg_48_0 (i := 46) rfl
theorem kc_48_81 : xe_code 48 81 = some (.iload_n 1, []) := kg_48_0 (i := 47) rfl
theorem kc_48_82 : xe_code 48 82 = some (.ireturn, []) := kg_48_1 (i := 0) rfl
theorem kc_49_0 : xe_code 49 0 = some (.iconst 0, []) := kg_49_0 (i := 0) rfl
theorem kc_49_1 : xe_code 49 1 = some (.istore_n 1, []) := kg_49_0 (i := 1) rfl
theorem kc_49_2 : xe_code 49 2 = some (.iload_n 0, []) := kg_49_0 (i := 2) rfl
theorem kc_49_3 : xe_code 49 3 = some (.istore_n 2, []) := kg_49_0 (i := 3) rfl
theorem kc_49_4 : xe_code 49 4 = some (.iload_n 2, []) := kg_49_0 (i := 4) rfl
theorem kc_49_5 : xe_code 49 5 = some (.ifCond .le 16, [21]) := kg_49_0 (i := 5) rfl
theorem kc_49_8 : xe_code 49 8 = some (.iload_n 1, []) := kg_49_0 (i := 6) rfl
theorem kc_49_9 : xe_code 49 9 = some (.iload_n 2, []) := kg_49_0 (i := 7) rfl
theorem kc_49_10 : xe_code 49 10 = some (.iconst 2, []) := kg_49_0 (i := 8) rfl
theorem kc_49_11 : xe_code 49 11 = some (.irem, []) := kg_49_0 (i := 9) rfl
theorem kc_49_12 : xe_code 49 12 = some (.iadd, []) := kg_49_0 (i := 10) rfl
theorem kc_49_13 : xe_code 49 13 = some (.istore_n 1, []) := kg_49_0 (i := 11) rfl
theorem kc_49_14 : xe_code 49 14 = some (.iload_n 2, []) := kg_49_0 (i := 12) rfl
theorem kc_49_15 : xe_code 49 15 = some (.iconst 2, []) := kg_49_0 (i := 13) rfl
theorem kc_49_16 : xe_code 49 16 = some (.idiv, []) := kg_49_0 (i := 14) rfl
theorem kc_49_17 : xe_code 49 17 = some (.istore_n 2, []) := kg_49_0 (i := 15) rfl
theorem kc_49_18 : xe_code 49 18 = some (.goto (-14), [4]) := kg_49_0 (i := 16) rfl
theorem kc_49_21 : xe_code 49 21 = some (.iload_n 1, []) := kg_49_0 (i := 17) rfl
theorem kc_49_22 : xe_code 49 22 = some (.ireturn, []) := kg_49_0 (i := 18) rfl
theorem kc_50_0 : xe_code 50 0 = some (.aload_n 0, []) := kg_50_0 (i := 0) rfl
theorem kc_50_1 : xe_code 50 1 = some (.iconst 0, []) := kg_50_0 (i := 1) rfl
theorem kc_50_2 : xe_code 50 2 = some (.putfield 169, [12, 0, 947]) := kg_50_0 (i := 2) rfl
theorem kc_50_5 : xe_code 50 5 = some (.iload_n 1, []) := kg_50_0 (i := 3) rfl
theorem kc_50_6 : xe_code 50 6 = some (.iconst 0, []) := kg_50_0 (i := 4) rfl
theorem kc_50_7 : xe_code 50 7 = some (.iconst 1, []) := kg_50_0 (i := 5) rfl
theorem kc_50_8 : xe_code 50 8 = some (.invokestatic 173, [11, 3, 1148, 12]) := kg_50_0 (i := 6) rfl
theorem kc_50_11 : xe_code 50 11 = some (.ifCond .ne 10, [21]) := kg_50_0 (i := 7) rfl
theorem kc_50_14 : xe_code 50 14 = some (.aload_n 0, []) := kg_50_0 (i := 8) rfl
theorem kc_50_15 : xe_code 50 15 = some (.bipush (-2), []) := kg_50_0 (i := 9) rfl
theorem kc_50_17 : xe_code 50 17 = some (.invokevirtual 188, [12, 1, 1151, 12]) := kg_50_0 (i := 10) rfl
theorem kc_50_20 : xe_code 50 20 = some (.ireturn, []) := kg_50_0 (i := 11) rfl
theorem kc_50_21 : xe_code 50 21 = some (.aload_n 0, []) := kg_50_0 (i := 12) rfl
theorem kc_50_22 : xe_code 50 22 = some (.invokevirtual 270, [43, 0, 1274, 12]) := kg_50_0 (i := 13) rfl
theorem kc_50_25 : xe_code 50 25 = some (.iconst 0, []) := kg_50_0 (i := 14) rfl
theorem kc_50_26 : xe_code 50 26 = some (.istore_n 2, []) := kg_50_0 (i := 15) rfl
theorem kc_50_27 : xe_code 50 27 = some (.bipush 99, []) := kg_50_0 (i := 16) rfl
theorem kc_50_29 : xe_code 50 29 = some (.istore_n 3, []) := kg_50_0 (i := 17) rfl
theorem kc_50_30 : xe_code 50 30 = some (.iconst 0, []) := kg_50_0 (i := 18) rfl
theorem kc_50_31 : xe_code 50 31 = some (.istore 4, []) := kg_50_0 (i := 19) rfl
theorem kc_50_33 : xe_code 50 33 = some (.iload 4, []) := kg_50_0 (i := 20) rfl
theorem kc_50_35 : xe_code 50 35 = some (.aload_n 0, []) := kg_50_0 (i := 21) rfl
theorem kc_50_36 : xe_code 50 36 = some (.invokevirtual 262, [42, 0, 1270, 12]) := kg_50_0 (i := 22) rfl
theorem kc_50_39 : xe_code 50 39 = some (.if_icmp .ge 70, [109]) := kg_50_0 (i := 23) rfl
theorem kc_50_42 : xe_code 50 42 = some (.aload_n 0, []) := kg_50_0 (i := 24) rfl
theorem kc_50_43 : xe_code 50 43 = some (.getfield 114, [12, 42, 989]) := kg_50_0 (i := 25) rfl
theorem kc_50_46 : xe_code 50 46 = some (.iload 4, []) := kg_50_0 (i := 26) rfl
theorem kc_50_48 : xe_code 50 48 = some (.laload, []) := kg_50_0 (i := 27) rfl
theorem kc_50_49 : xe_code 50 49 = some (.lconst 0, []) := kg_50_0 (i := 28) rfl
theorem kc_50_50 : xe_code 50 50 = some (.lcmp, []) := kg_50_0 (i := 29) rfl
theorem kc_50_51 : xe_code 50 51 = some (.ifCond .ne 52, [103]) := kg_50_0 (i := 30) rfl
theorem kc_50_54 : xe_code 50 54 = some (.iload 4, []) := kg_50_0 (i := 31) rfl
theorem kc_50_56 : xe_code 50 56 = some (.invokestatic 273, [49, 1, 1298, 12]) := kg_50_0 (i := 32) rfl
theorem kc_50_59 : xe_code 50 59 = some (.iload_n 3, []) := kg_50_0 (i := 33) rfl
theorem kc_50_60 : xe_code 50 60 = some (.if_icmp .ge 7, [67]) := kg_50_0 (i := 34) rfl
theorem kc_50_63 : xe_code 50 63 = some (.iconst 1, []) := kg_50_0 (i := 35) rfl
theorem kc_50_64 : xe_code 50 64 = some (.goto 19, [83]) := kg_50_0 (i := 36) rfl
theorem kc_50_67 : xe_code 50 67 = some (.iload 4, []) := kg_50_0 (i := 37) rfl
theorem kc_50_69 : xe_code 50 69 = some (.invokestatic 273, [49, 1, 1298, 12]) := kg_50_0 (i := 38) rfl
theorem kc_50_72 : xe_code 50 72 = some (.iload_n 3, []) := kg_50_0 (i := 39) rfl
theorem kc_50_73 : xe_code 50 73 = some (.if_icmp .ne 9, [82]) := kg_50_0 (i := 40) rfl
theorem kc_50_76 : xe_code 50 76 = some (.iload_n 2, []) := kg_50_0 (i := 41) rfl
theorem kc_50_77 : xe_code 50 77 = some (.iconst 1, []) := kg_50_0 (i := 42) rfl
theorem kc_50_78 : xe_code 50 78 = some (.iadd, []) := kg_50_0 (i := 43) rfl
theorem kc_50_79 : xe_code 50 79 = some (.goto 4, [83]) := kg_50_0 (i := 44) rfl
theorem kc_50_82 : xe_code 50 82 = some (.iload_n 2, []) := kg_50_0 (i := 45) rfl
theorem kc_50_83 : xe_code 50 83 = some (.istore_n 2, []) := kg_50_0 (i := 46) rfl
theorem kc_50_84 : xe_code 50 84 = some (.iload 4, []) := kg_50_0 (i := 47) rfl
theorem kc_50_86 : xe_code 50 86 = some (.invokestatic 273, [49, 1, 1298, 12]) := kg_50_1 (i := 0) rfl
theorem kc_50_89 : xe_code 50 89 = some (.iload_n 3, []) := kg_50_1 (i := 1) rfl
theorem kc_50_90 : xe_code 50 90 = some (.if_icmp .ge 11, [101]) := kg_50_1 (i := 2) rfl
theorem kc_50_93 : xe_code 50 93 = some (.iload 4, []) := kg_50_1 (i := 3) rfl
theorem kc_50_95 : xe_code 50 95 = some (.invokestatic 273, [49, 1, 1298, 12]) := kg_50_1 (i := 4) rfl
theorem kc_50_98 : xe_code 50 98 = some (.goto 4, [102]) := kg_50_1 (i := 5) rfl
theorem kc_50_101 : xe_code 50 101 = some (.iload_n 3, []) := kg_50_1 (i := 6) rfl
theorem kc_50_102 : xe_code 50 102 = some (.istore_n 3, []) := kg_50_1 (i := 7) rfl
theorem kc_50_103 : xe_code 50 103 = some (.iinc 4 1, []) := kg_50_1 (i := 8) rfl
theorem kc_50_106 : xe_code 50 106 = some (.goto (-73), [33]) := kg_50_1 (i := 9) rfl
theorem kc_50_109 : xe_code 50 109 = some (.iload_n 2, []) := kg_50_1 (i := 10) rfl
theorem kc_50_110 : xe_code 50 110 = some (.ifCond .ne 8, [118]) := kg_50_1 (i := 11) rfl
theorem kc_50_113 : xe_code 50 113 = some (.bipush (-9), []) := kg_50_1 (i := 12) rfl
theorem kc_50_115 : xe_code 50 115 = some (.goto 12, [127]) := kg_50_1 (i := 13) rfl
theorem kc_50_118 : xe_code 50 118 = some (.iload_n 1, []) := kg_50_1 (i := 14) rfl
theorem kc_50_119 : xe_code 50 119 = some (.ifCond .ne 7, [126]) := kg_50_1 (i := 15) rfl
theorem kc_50_122 : xe_code 50 122 = some (.iload_n 2, []) := kg_50_1 (i := 16) rfl
theorem kc_50_123 : xe_code 50 123 = some (.goto 4, [127]) := kg_50_1 (i := 17) rfl
theorem kc_50_126 : xe_code 50 126 = some (.iload_n 3, []) := kg_50_1 (i := 18) rfl
theorem kc_50_127 : xe_code 50 127 = some (.ireturn, []) := kg_50_1 (i := 19) rfl
theorem kc_51_0 : xe_code 51 0 = some (.aload_n 0, []) := kg_51_0 (i := 0) rfl
theorem kc_51_1 : xe_code 51 1 = some (.iconst 0, []) := kg_51_0 (i := 1) rfl
theorem kc_51_2 : xe_code 51 2 = some (.putfield 169, [12, 0, 947]) := kg_51_0 (i := 2) rfl
theorem kc_51_5 : xe_code 51 5 = some (.aload_n 0, []) := kg_51_0 (i := 3) rfl
theorem kc_51_6 : xe_code 51 6 = some (.invokevirtual 288, [52, 0, 1309, 12]) := kg_51_0 (i := 4) rfl
theorem kc_51_9 : xe_code 51 9 = some (.ireturn, []) := kg_51_0 (i := 5) rfl
theorem kc_52_0 : xe_code 52 0 = some (.aload_n 0, []) := kg_52_0 (i := 0) rfl
theorem kc_52_1 : xe_code 52 1 = some (.invokevirtual 270, [43, 0, 1274, 12]) := kg_52_0 (i := 1) rfl
theorem kc_52_4 : xe_code 52 4 = some (.iconst 0, []) := kg_52_0 (i := 2) rfl
theorem kc_52_5 : xe_code 52 5 = some (.istore_n 1, []) := kg_52_0 (i := 3) rfl
theorem kc_52_6 : xe_code 52 6 = some (.iconst 0, []) := kg_52_0 (i := 4) rfl
theorem kc_52_7 : xe_code 52 7 = some (.istore_n 2, []) := kg_52_0 (i := 5) rfl
theorem kc_52_8 : xe_code 52 8 = some (.iload_n 2, []) := kg_52_0 (i := 6) rfl
theorem kc_52_9 : xe_code 52 9 = some (.aload_n 0, []) := kg_52_0 (i := 7) rfl
theorem kc_52_10 : xe_code 52 10 = some (.invokevirtual 262, [42, 0, 1270, 12]) := kg_52_0 (i := 8) rfl
theorem kc_52_13 : xe_code 52 13 = some (.if_icmp .ge 25, [38]) := kg_52_0 (i := 9) rfl
theorem kc_52_16 : xe_code 52 16 = some (.iload_n 1, []) := kg_52_0 (i := 10) rfl
theorem kc_52_17 : xe_code 52 17 = some (.aload_n 0, []) := kg_52_0 (i := 11) rfl
theorem kc_52_18 : xe_code 52 18 = some (.iload_n 2, []) := kg_52_0 (i := 12) rfl
theorem kc_52_19 : xe_code 52 19 = some (.invokevirtual 285, [53, 1, 1313, 12]) := kg_52_0 (i := 13) rfl
theorem kc_52_22 : xe_code 52 22 = some (.ifCond .eq 7, [29]) := kg_52_0 (i := 14) rfl
theorem kc_52_25 : xe_code 52 25 = some (.iconst 1, []) := kg_52_0 (i := 15) rfl
theorem kc_52_26 : xe_code 52 26 = some (.goto 4, [30]) := kg_52_0 (i := 16) rfl
theorem kc_52_29 : xe_code 52 29 = some (.iconst 0, []) := kg_52_0 (i := 17) rfl
theorem kc_52_30 : xe_code 52 30 = some (.iadd, []) := kg_52_0 (i := 18) rfl
theorem kc_52_31 : xe_code 52 31 = some (.istore_n 1, []) := kg_52_0 (i := 19) rfl
theorem kc_52_32 : xe_code 52 32 = some (.iinc 2 1, []) := kg_52_0 (i := 20) rfl
theorem kc_52_35 : xe_code 52 35 = some (.goto (-27), [8]) := kg_52_0 (i := 21) rfl
theorem kc_52_38 : xe_code 52 38 = some (.iload_n 1, []) := kg_52_0 (i := 22) rfl
theorem kc_52_39 : xe_code 52 39 = some (.ireturn, []) := kg_52_0 (i := 23) rfl
theorem kc_53_0 : xe_code 53 0 = some (.aload_n 0, []) := kg_53_0 (i := 0) rfl
theorem kc_53_1 : xe_code 53 1 = some (.getfield 114, [12, 42, 989]) := kg_53_0 (i := 1) rfl
theorem kc_53_4 : xe_code 53 4 = some (.iload_n 1, []) := kg_53_0 (i := 2) rfl
theorem kc_53_5 : xe_code 53 5 = some (.laload, []) := kg_53_0 (i := 3) rfl
theorem kc_53_6 : xe_code 53 6 = some (.lconst 0, []) := kg_53_0 (i := 4) rfl
theorem kc_53_7 : xe_code 53 7 = some (.lcmp, []) := kg_53_0 (i := 5) rfl
theorem kc_53_8 : xe_code 53 8 = some (.ifCond .ne 7, [15]) := kg_53_0 (i := 6) rfl
theorem kc_53_11 : xe_code 53 11 = some (.iconst 1, []) := kg_53_0 (i := 7) rfl
theorem kc_53_12 : xe_code 53 12 = some (.goto 4, [16]) := kg_53_0 (i := 8) rfl
theorem kc_53_15 : xe_code 53 15 = some (.iconst 0, []) := kg_53_0 (i := 9) rfl
theorem kc_53_16 : xe_code 53 16 = some (.istore_n 2, []) := kg_53_0 (i := 10) rfl
theorem kc_53_17 : xe_code 53 17 = some (.iconst 0, []) := kg_53_0 (i := 11) rfl
theorem kc_53_18 : xe_code 53 18 = some (.istore_n 3, []) := kg_53_0 (i := 12) rfl
theorem kc_53_19 : xe_code 53 19 = some (.iload_n 3, []) := kg_53_0 (i := 13) rfl
theorem kc_53_20 : xe_code 53 20 = some (.aload_n 0, []) := kg_53_0 (i := 14) rfl
theorem kc_53_21 : xe_code 53 21 = some (.getfield 279, [12, 45, 992]) := kg_53_0 (i := 15) rfl
theorem kc_53_24 : xe_code 53 24 = some (.if_icmp .ge 43, [67]) := kg_53_0 (i := 16) rfl
theorem kc_53_27 : xe_code 53 27 = some (.iload_n 2, []) := kg_53_0 (i := 17) rfl
theorem kc_53_28 : xe_code 53 28 = some (.ifCond .eq 31, [59]) := kg_53_0 (i := 18) rfl
theorem kc_53_31 : xe_code 53 31 = some (.aload_n 0, []) := kg_53_0 (i := 19) rfl
theorem kc_53_32 : xe_code 53 32 = some (.getfield 130, [12, 48, 995]) := kg_53_0 (i := 20) rfl
theorem kc_53_35 : xe_code 53 35 = some (.iload_n 3, []) := kg_53_0 (i := 21) rfl
theorem kc_53_36 : xe_code 53 36 = some (.iaload, []) := kg_53_0 (i := 22) rfl
theorem kc_53_37 : xe_code 53 37 = some (.ifCond .eq 18, [55]) := kg_53_0 (i := 23) rfl
theorem kc_53_40 : xe_code 53 40 = some (.aload_n 0, []) := kg_53_0 (i := 24) rfl
theorem kc_53_41 : xe_code 53 41 = some (.getfield 130, [12, 48, 995]) := kg_53_0 (i := 25) rfl
theorem kc_53_44 : xe_code 53 44 = some (.iload_n 3, []) := kg_53_0 (i := 26) rfl
theorem kc_53_45 : xe_code 53 45 = some (.iaload, []) := kg_53_0 (i := 27) rfl
theorem kc_53_46 : xe_code 53 46 = some (.aload_n 0, []) := kg_53_0 (i := 28) rfl
theorem kc_53_47 : xe_code 53 47 = some (.iload_n 3, []) := kg_53_0 (i := 29) rfl
theorem kc_53_48 : xe_code 53 48 = some (.iload_n 1, []) := kg_53_0 (i := 30) rfl
theorem kc_53_49 : xe_code 53 49 = some (.invokevirtual 282, [54, 2, 1317, 12]) := kg_53_0 (i := 31) rfl
theorem kc_53_52 : xe_code 53 52 = some (.if_icmp .ne 7, [59]) := kg_53_0 (i := 32) rfl
theorem kc_53_55 : xe_code 53 55 = some (.iconst 1, []) := kg_53_0 (i := 33) rfl
theorem kc_53_56 : xe_code 53 56 = some (.goto 4, [60]) := kg_53_0 (i := 34) rfl
theorem kc_53_59 : xe_code 53 59 = some (.iconst 0, []) := kg_53_0 (i := 35) rfl
theorem kc_53_60 : xe_code 53 60 = some (.istore_n 2, []) := kg_53_0 (i := 36) rfl
theorem kc_53_61 : xe_code 53 61 = some (.iinc 3 1, []) := kg_53_0 (i := 37) rfl
theorem kc_53_64 : xe_code 53 64 = some (.goto (-45), [19]) := kg_53_0 (i := 38) rfl
theorem kc_53_67 : xe_code 53 67 = some (.iload_n 2, []) := kg_53_0 (i := 39) rfl
theorem kc_53_68 : xe_code 53 68 = some (.ireturn, []) := kg_53_0 (i := 40) rfl
theorem kc_54_0 : xe_code 54 0 = some (.aload_n 0, []) := kg_54_0 (i := 0) rfl
theorem kc_54_1 : xe_code 54 1 = some (.getfield 124, [12, 46, 993]) := kg_54_0 (i := 1) rfl
theorem kc_54_4 : xe_code 54 4 = some (.iload_n 1, []) := kg_54_0 (i := 2) rfl
theorem kc_54_5 : xe_code 54 5 = some (.iaload, []) := kg_54_0 (i := 3) rfl
theorem kc_54_6 : xe_code 54 6 = some (.iload_n 2, []) := kg_54_0 (i := 4) rfl
theorem kc_54_7 : xe_code 54 7 = some (.iand, []) := kg_54_0 (i := 5) rfl
theorem kc_54_8 : xe_code 54 8 = some (.ifCond .eq 7, [15]) := kg_54_0 (i := 6) rfl
theorem kc_54_11 : xe_code 54 11 = some (.iconst 1, []) := kg_54_0 (i := 7) rfl
theorem kc_54_12 : xe_code 54 12 = some (.goto 4, [16]) := kg_54_0 (i := 8) rfl
theorem kc_54_15 : xe_code 54 15 = some (.iconst 2, []) := kg_54_0 (i := 9) rfl
theorem kc_54_16 : xe_code 54 16 = some (.ireturn, []) := kg_54_0 (i := 10) rfl
theorem kc_55_0 : xe_code 55 0 = some (.aload_n 0, []) := kg_55_0 (i := 0) rfl
theorem kc_55_1 : xe_code 55 1 = some (.iconst 0, []) := kg_55_0 (i := 1) rfl
theorem kc_55_2 : xe_code 55 2 = some (.putfield 169, [12, 0, 947]) := kg_55_0 (i := 2) rfl
theorem kc_55_5 : xe_code 55 5 = some (.iload_n 1, []) := kg_55_0 (i := 3) rfl
theorem kc_55_6 : xe_code 55 6 = some (.iconst 0, []) := kg_55_0 (i := 4) rfl
theorem kc_55_7 : xe_code 55 7 = some (.bipush 63, []) := kg_55_0 (i := 5) rfl
theorem kc_55_9 : xe_code 55 9 = some (.invokestatic 173, [11, 3, 1148, 12]) := kg_55_0 (i := 6) rfl
theorem kc_55_12 : xe_code 55 12 = some (.ifCond .ne 10, [22]) := kg_55_0 (i := 7) rfl
theorem kc_55_15 : xe_code 55 15 = some (.aload_n 0, []) := kg_55_0 (i := 8) rfl
theorem kc_55_16 : xe_code 55 16 = some (.bipush (-2), []) := kg_55_0 (i := 9) rfl
theorem kc_55_18 : xe_code 55 18 = some (.invokevirtual 188, [12, 1, 1151, 12]) := kg_55_0 (i := 10) rfl
theorem kc_55_21 : xe_code 55 21 = some (.ireturn, []) := kg_55_0 (i := 11) rfl
theorem kc_55_22 : xe_code 55 22 = some (.iload_n 2, []) := kg_55_0 (i := 12) rfl
theorem kc_55_23 : xe_code 55 23 = some (.iconst 1, []) := kg_55_0 (i := 13) rfl
theorem kc_55_24 : xe_code 55 24 = some (.if_icmp .ge 10, [34]) := kg_55_0 (i := 14) rfl
theorem kc_55_27 : xe_code 55 27 = some (.aload_n 0, []) := kg_55_0 (i := 15) rfl
theorem kc_55_28 : xe_code 55 28 = some (.bipush (-4), []) := kg_55_0 (i := 16) rfl
theorem kc_55_30 : xe_code 55 30 = some (.invokevirtual 188, [12, 1, 1151, 12]) := kg_55_0 (i := 17) rfl
theorem kc_55_33 : xe_code 55 33 = some (.ireturn, []) := kg_55_0 (i := 18) rfl
theorem kc_55_34 : xe_code 55 34 = some (.iload_n 2, []) := kg_55_0 (i := 19) rfl
theorem kc_55_35 : xe_code 55 35 = some (.sipush 999, []) := kg_55_0 (i := 20) rfl
theorem kc_55_38 : xe_code 55 38 = some (.if_icmp .gt 12, [50]) := kg_55_0 (i := 21) rfl
theorem kc_55_41 : xe_code 55 41 = some (.aload_n 0, []) := kg_55_0 (i := 22) rfl
theorem kc_55_42 : xe_code 55 42 = some (.getfield 279, [12, 45, 992]) := kg_55_0 (i := 23) rfl
theorem kc_55_45 : xe_code 55 45 = some (.bipush 8, []) := kg_55_0 (i := 24) rfl
theorem kc_55_47 : xe_code 55 47 = some (.if_icmp .ne 10, [57]) := kg_55_0 (i := 25) rfl
theorem kc_55_50 : xe_code 55 50 = some (.aload_n 0, []) := kg_55_0 (i := 26) rfl
theorem kc_55_51 : xe_code 55 51 = some (.bipush (-6), []) := kg_55_0 (i := 27) rfl
theorem kc_55_53 : xe_code 55 53 = some (.invokevirtual 188, [12, 1, 1151, 12]) := kg_55_0 (i := 28) rfl
theorem kc_55_56 : xe_code 55 56 = some (.ireturn, []) := kg_55_0 (i := 29) rfl
theorem kc_55_57 : xe_code 55 57 = some (.aload_n 0, []) := kg_55_0 (i := 30) rfl
theorem kc_55_58 : xe_code 55 58 = some (.getfield 124, [12, 46, 993]) := kg_55_0 (i := 31) rfl
theorem kc_55_61 : xe_code 55 61 = some (.aload_n 0, []) := kg_55_0 (i := 32) rfl
theorem kc_55_62 : xe_code 55 62 = some (.getfield 279, [12, 45, 992]) := kg_55_0 (i := 33) rfl
theorem kc_55_65 : xe_code 55 65 = some (.iload_n 1, []) := kg_55_0 (i := 34) rfl
theorem kc_55_66 : xe_code 55 66 = some (.iastore, []) := kg_55_0 (i := 35) rfl
theorem kc_55_67 : xe_code 55 67 = some (.aload_n 0, []) := kg_55_0 (i := 36) rfl
theorem kc_55_68 : xe_code 55 68 = some (.getfield 127, [12, 47, 994]) := kg_55_0 (i := 37) rfl
theorem kc_55_71 : xe_code 55 71 = some (.aload_n 0, []) := kg_55_0 (i := 38) rfl
theorem kc_55_72 : xe_code 55 72 = some (.getfield 279, [12, 45, 992]) := kg_55_0 (i := 39) rfl
theorem kc_55_75 : xe_code 55 75 = some (.iload_n 2, []) := kg_55_0 (i := 40) rfl
theorem kc_55_76 : xe_code 55 76 = some (.iastore, []) := kg_55_0 (i := 41) rfl
theorem kc_55_77 : xe_code 55 77 = some (.aload_n 0, []) := kg_55_0 (i := 42) rfl
theorem kc_55_78 : xe_code 55 78 = some (.getfield 130, [12, 48, 995]) := kg_55_0 (i := 43) rfl
theorem kc_55_81 : xe_code 55 81 = some (.aload_n 0, []) := kg_55_0 (i := 44) rfl
theorem kc_55_82 : xe_code 55 82 = some (.getfield 279, [12, 45, 992]) := kg_55_0 (i := 45) rfl
theorem kc_55_85 : xe_code 55 85 = some (.iconst 0, []) := kg_55_0 (i := 46) rfl
theorem kc_55_86 : xe_code 55 86 = some (.iastore, []) := kg_55_0 (i := 47) rfl
theorem kc_55_87 : xe_code 55 87 = some (.aload_n 0, []) := kg_55_1 (i := 0) rfl
theorem kc_55_88 : xe_code 55 88 = some (.dup, []) := kg_55_1 (i := 1) rfl
theorem kc_55_89 : xe_code 55 89 = some (.getfield 279, [12, 45, 992]) := kg_55_1 (i := 2) rfl
theorem kc_55_92 : xe_code 55 92 = some (.iconst 1, []) := kg_55_1 (i := 3) rfl
theorem kc_55_93 : xe_code 55 93 = some (.iadd, []) := kg_55_1 (i := 4) rfl
theorem kc_55_94 : xe_code 55 94 = some (.putfield 279, [12, 45, 992]) := kg_55_1 (i := 5) rfl
theorem kc_55_97 : xe_code 55 97 = some (.aload_n 0, []) := kg_55_1 (i := 6) rfl
theorem kc_55_98 : xe_code 55 98 = some (.getfield 279, [12, 45, 992]) := kg_55_1 (i := 7) rfl
theorem kc_55_101 : xe_code 55 101 = some (.iconst 1, []) := kg_55_1 (i := 8) rfl
theorem kc_55_102 : xe_code 55 102 = some (.isub, []) := kg_55_1 (i := 9) rfl
theorem kc_55_103 : xe_code 55 103 = some (.ireturn, []) := kg_55_1 (i := 10) rfl
theorem kc_56_0 : xe_code 56 0 = some (.aload_n 0, []) := kg_56_0 (i := 0) rfl
theorem kc_56_1 : xe_code 56 1 = some (.iconst 0, []) := kg_56_0 (i := 1) rfl
theorem kc_56_2 : xe_code 56 2 = some (.putfield 169, [12, 0, 947]) := kg_56_0 (i := 2) rfl
theorem kc_56_5 : xe_code 56 5 = some (.iload_n 1, []) := kg_56_0 (i := 3) rfl
theorem kc_56_6 : xe_code 56 6 = some (.iconst 0, []) := kg_56_0 (i := 4) rfl
theorem kc_56_7 : xe_code 56 7 = some (.aload_n 0, []) := kg_56_0 (i := 5) rfl
theorem kc_56_8 : xe_code 56 8 = some (.getfield 279, [12, 45, 992]) := kg_56_0 (i := 6) rfl
theorem kc_56_11 : xe_code 56 11 = some (.iconst 1, []) := kg_56_0 (i := 7) rfl
theorem kc_56_12 : xe_code 56 12 = some (.isub, []) := kg_56_0 (i := 8) rfl
theorem kc_56_13 : xe_code 56 13 = some (.invokestatic 173, [11, 3, 1148, 12]) := kg_56_0 (i := 9) rfl
theorem kc_56_16 : xe_code 56 16 = some (.ifCond .ne 9, [25]) := kg_56_0 (i := 10) rfl
theorem kc_56_19 : xe_code 56 19 = some (.aload_n 0, []) := kg_56_0 (i := 11) rfl
theorem kc_56_20 : xe_code 56 20 = some (.iconst (-1), []) := kg_56_0 (i := 12) rfl
theorem kc_56_21 : xe_code 56 21 = some (.invokevirtual 188, [12, 1, 1151, 12]) := kg_56_0 (i := 13) rfl
theorem kc_56_24 : xe_code 56 24 = some (.ireturn, []) := kg_56_0 (i := 14) rfl
theorem kc_56_25 : xe_code 56 25 = some (.aload_n 0, []) := kg_56_0 (i := 15) rfl
theorem kc_56_26 : xe_code 56 26 = some (.getfield 130, [12, 48, 995]) := kg_56_0 (i := 16) rfl
theorem kc_56_29 : xe_code 56 29 = some (.iload_n 1, []) := kg_56_0 (i := 17) rfl
theorem kc_56_30 : xe_code 56 30 = some (.iaload, []) := kg_56_0 (i := 18) rfl
theorem kc_56_31 : xe_code 56 31 = some (.ifCond .eq 10, [41]) := kg_56_0 (i := 19) rfl
theorem kc_56_34 : xe_code 56 34 = some (.aload_n 0, []) := kg_56_0 (i := 20) rfl
theorem kc_56_35 : xe_code 56 35 = some (.bipush (-3), []) := kg_56_0 (i := 21) rfl
theorem kc_56_37 : xe_code 56 37 = some (.invokevirtual 188, [12, 1, 1151, 12]) := kg_56_0 (i := 22) rfl
theorem kc_56_40 : xe_code 56 40 = some (.ireturn, []) := kg_56_0 (i := 23) rfl
theorem kc_56_41 : xe_code 56 41 = some (.aload_n 0, []) := kg_56_0 (i := 24) rfl
theorem kc_56_42 : xe_code 56 42 = some (.getfield 130, [12, 48, 995]) := kg_56_0 (i := 25) rfl
theorem kc_56_45 : xe_code 56 45 = some (.iload_n 1, []) := kg_56_0 (i := 26) rfl
theorem kc_56_46 : xe_code 56 46 = some (.iload_n 2, []) := kg_56_0 (i := 27) rfl
theorem kc_56_47 : xe_code 56 47 = some (.ifCond .eq 7, [54]) := kg_56_0 (i := 28) rfl
theorem kc_56_50 : xe_code 56 50 = some (.iconst 1, []) := kg_56_0 (i := 29) rfl
theorem kc_56_51 : xe_code 56 51 = some (.goto 4, [55]) := kg_56_0 (i := 30) rfl
theorem kc_56_54 : xe_code 56 54 = some (.iconst 2, []) := kg_56_0 (i := 31) rfl
theorem kc_56_55 : xe_code 56 55 = some (.iastore, []) := kg_56_0 (i := 32) rfl
theorem kc_56_56 : xe_code 56 56 = some (.aload_n 0, []) := kg_56_0 (i := 33) rfl
theorem kc_56_57 : xe_code 56 57 = some (.invokevirtual 288, [52, 0, 1309, 12]) := kg_56_0 (i := 34) rfl
theorem kc_56_60 : xe_code 56 60 = some (.ireturn, []) := kg_56_0 (i := 35) rfl
theorem kc_57_0 : xe_code 57 0 = some (.aload_n 0, []) := kg_57_0 (i := 0) rfl
theorem kc_57_1 : xe_code 57 1 = some (.iconst 0, []) := kg_57_0 (i := 1) rfl
theorem kc_57_2 : xe_code 57 2 = some (.putfield 169, [12, 0, 947]) := kg_57_0 (i := 2) rfl
theorem kc_57_5 : xe_code 57 5 = some (.aload_n 0, []) := kg_57_0 (i := 3) rfl
theorem kc_57_6 : xe_code 57 6 = some (.invokevirtual 288, [52, 0, 1309, 12]) := kg_57_0 (i := 4) rfl
theorem kc_57_9 : xe_code 57 9 = some (.istore_n 1, []) := kg_57_0 (i := 5) rfl
theorem kc_57_10 : xe_code 57 10 = some (.bipush (-9), []) := kg_57_0 (i := 6) rfl
theorem kc_57_12 : xe_code 57 12 = some (.istore_n 2, []) := kg_57_0 (i := 7) rfl
theorem kc_57_13 : xe_code 57 13 = some (.iconst 0, []) := kg_57_0 (i := 8) rfl
theorem kc_57_14 : xe_code 57 14 = some (.istore_n 3, []) := kg_57_0 (i := 9) rfl
theorem kc_57_15 : xe_code 57 15 = some (.iconst 0, []) := kg_57_0 (i := 10) rfl
theorem kc_57_16 : xe_code 57 16 = some (.istore 4, []) := kg_57_0 (i := 11) rfl
theorem kc_57_18 : xe_code 57 18 = some (.iload 4, []) := kg_57_0 (i := 12) rfl
theorem kc_57_20 : xe_code 57 20 = some (.aload_n 0, []) := kg_57_0 (i := 13) rfl
theorem kc_57_21 : xe_code 57 21 = some (.getfield 279, [12, 45, 992]) := kg_57_0 (i := 14) rfl
theorem kc_57_24 : xe_code 57 24 = some (.if_icmp .ge 119, [143]) := kg_57_0 (i := 15) rfl
theorem kc_57_27 : xe_code 57 27 = some (.iload_n 1, []) := kg_57_0 (i := 16) rfl
theorem kc_57_28 : xe_code 57 28 = some (.ifCond .le 115, [143]) := kg_57_0 (i := 17) rfl
theorem kc_57_31 : xe_code 57 31 = some (.iconst 0, []) := kg_57_0 (i := 18) rfl
theorem kc_57_32 : xe_code 57 32 = some (.istore 5, []) := kg_57_0 (i := 19) rfl
theorem kc_57_34 : xe_code 57 34 = some (.iconst 0, []) := kg_57_0 (i := 20) rfl
theorem kc_57_35 : xe_code 57 35 = some (.istore 6, []) := kg_57_0 (i := 21) rfl
theorem kc_57_37 : xe_code 57 37 = some (.iload 6, []) := kg_57_0 (i := 22) rfl
theorem kc_57_39 : xe_code 57 39 = some (.aload_n 0, []) := kg_57_0 (i := 23) rfl
theorem kc_57_40 : xe_code 57 40 = some (.invokevirtual 262, [42, 0, 1270, 12]) := kg_57_0 (i := 24) rfl
theorem kc_57_43 : xe_code 57 43 = some (.if_icmp .ge 40, [83]) := kg_57_0 (i := 25) rfl
theorem kc_57_46 : xe_code 57 46 = some (.iload 5, []) := kg_57_0 (i := 26) rfl
theorem kc_57_48 : xe_code 57 48 = some (.aload_n 0, []) := kg_57_0 (i := 27) rfl
theorem kc_57_49 : xe_code 57 49 = some (.iload 6, []) := kg_57_0 (i := 28) rfl
theorem kc_57_51 : xe_code 57 51 = some (.invokevirtual 285, [53, 1, 1313, 12]) := kg_57_0 (i := 29) rfl
theorem kc_57_54 : xe_code 57 54 = some (.ifCond .eq 19, [73]) := kg_57_0 (i := 30) rfl
theorem kc_57_57 : xe_code 57 57 = some (.aload_n 0, []) := kg_57_0 (i := 31) rfl
theorem kc_57_58 : xe_code 57 58 = some (.iload 4, []) := kg_57_0 (i := 32) rfl
theorem kc_57_60 : xe_code 57 60 = some (.iload 6, []) := kg_57_0 (i := 33) rfl
theorem kc_57_62 : xe_code 57 62 = some (.invokevirtual 282, [54, 2, 1317, 12]) := kg_57_0 (i := 34) rfl
theorem kc_57_65 : xe_code 57 65 = some (.iconst 1, []) := kg_57_0 (i := 35) rfl
theorem kc_57_66 : xe_code 57 66 = some (.if_icmp .ne 7, [73]) := kg_57_0 (i := 36) rfl
theorem kc_57_69 : xe_code 57 69 = some (.iconst 1, []) := kg_57_0 (i := 37) rfl
theorem kc_57_70 : xe_code 57 70 = some (.goto 4, [74]) := kg_57_0 (i := 38) rfl
theorem kc_57_73 : xe_code 57 73 = some (.iconst 0, []) := kg_57_0 (i := 39) rfl
theorem kc_57_74 : xe_code 57 74 = some (.iadd, []) := kg_57_0 (i := 40) rfl
theorem kc_57_75 : xe_code 57 75 = some (.istore 5, []) := kg_57_0 (i := 41) rfl
theorem kc_57_77 : xe_code 57 77 = some (.iinc 6 1, []) := kg_57_0 (i := 42) rfl
theorem kc_57_80 : xe_code 57 80 = some (.goto (-43), [37]) := kg_57_0 (i := 43) rfl
theorem kc_57_83 : xe_code 57 83 = some (.aload_n 0, []) := kg_57_0 (i := 44) rfl
theorem kc_57_84 : xe_code 57 84 = some (.getfield 127, [12, 47, 994]) := kg_57_0 (i := 45) rfl
theorem kc_57_87 : xe_code 57 87 = some (.iload 4, []) := kg_57_0 (i := 46) rfl
theorem kc_57_89 : xe_code 57 89 = some (.iaload, []) := kg_57_0 (i := 47) rfl
theorem kc_57_90 : xe_code 57 90 = some (.iload 5, []) := kg_57_1 (i := 0) rfl
theorem kc_57_92 : xe_code 57 92 = some (.iload_n 1, []) := kg_57_1 (i := 1) rfl
theorem kc_57_93 : xe_code 57 93 = some (.iload 5, []) := kg_57_1 (i := 2) rfl
theorem kc_57_95 : xe_code 57 95 = some (.isub, []) := kg_57_1 (i := 3) rfl
theorem kc_57_96 : xe_code 57 96 = some (.if_icmp .le 8, [104]) := kg_57_1 (i := 4) rfl
theorem kc_57_99 : xe_code 57 99 = some (.iload 5, []) := kg_57_1 (i := 5) rfl
theorem kc_57_101 : xe_code 57 101 = some (.goto 7, [108]) := kg_57_1 (i := 6) rfl
theorem kc_57_104 : xe_code 57 104 = some (.iload_n 1, []) := kg_57_1 (i := 7) rfl
theorem kc_57_105 : xe_code 57 105 = some (.iload 5, []) := kg_57_1 (i := 8) rfl
theorem kc_57_107 : xe_code 57 107 = some (.isub, []) := kg_57_1 (i := 9) rfl
theorem kc_57_108 : xe_code 57 108 = some (.imul, []) := kg_57_1 (i := 10) rfl
theorem kc_57_109 : xe_code 57 109 = some (.istore 6, []) := kg_57_1 (i := 11) rfl
theorem kc_57_111 : xe_code 57 111 = some (.aload_n 0, []) := kg_57_1 (i := 12) rfl
theorem kc_57_112 : xe_code 57 112 = some (.getfield 130, [12, 48, 995]) := kg_57_1 (i := 13) rfl
theorem kc_57_115 : xe_code 57 115 = some (.iload 4, []) := kg_57_1 (i := 14) rfl
theorem kc_57_117 : xe_code 57 117 = some (.iaload, []) := kg_57_1 (i := 15) rfl
theorem kc_57_118 : xe_code 57 118 = some (.ifCond .ne 19, [137]) := kg_57_1 (i := 16) rfl
theorem kc_57_121 : xe_code 57 121 = some (.iload_n 2, []) := kg_57_1 (i := 17) rfl
theorem kc_57_122 : xe_code 57 122 = some (.ifCond .lt 9, [131]) := kg_57_1 (i := 18) rfl
theorem kc_57_125 : xe_code 57 125 = some (.iload 6, []) := kg_57_1 (i := 19) rfl
theorem kc_57_127 : xe_code 57 127 = some (.iload_n 3, []) := kg_57_1 (i := 20) rfl
theorem kc_57_128 : xe_code 57 128 = some (.if_icmp .ge 9, [137]) := kg_57_1 (i := 21) rfl
theorem kc_57_131 : xe_code 57 131 = some (.iload 4, []) := kg_57_1 (i := 22) rfl
theorem kc_57_133 : xe_code 57 133 = some (.istore_n 2, []) := kg_57_1 (i := 23) rfl
theorem kc_57_134 : xe_code 57 134 = some (.iload 6, []) := kg_57_1 (i := 24) rfl
theorem kc_57_136 : xe_code 57 136 = some (.istore_n 3, []) := kg_57_1 (i := 25) rfl
theorem kc_57_137 : xe_code 57 137 = some (.iinc 4 1, []) := kg_57_1 (i := 26) rfl
theorem kc_57_140 : xe_code 57 140 = some (.goto (-122), [18]) := kg_57_1 (i := 27) rfl
theorem kc_57_143 : xe_code 57 143 = some (.iload_n 2, []) := kg_57_1 (i := 28) rfl
theorem kc_57_144 : xe_code 57 144 = some (.ireturn, []) := kg_57_1 (i := 29) rfl
theorem kc_58_0 : xe_code 58 0 = some (.aload_n 0, []) := kg_58_0 (i := 0) rfl
theorem kc_58_1 : xe_code 58 1 = some (.iconst 0, []) := kg_58_0 (i := 1) rfl
theorem kc_58_2 : xe_code 58 2 = some (.putfield 169, [12, 0, 947]) := kg_58_0 (i := 2) rfl
theorem kc_58_5 : xe_code 58 5 = some (.aload_n 0, []) := kg_58_0 (i := 3) rfl
theorem kc_58_6 : xe_code 58 6 = some (.invokevirtual 270, [43, 0, 1274, 12]) := kg_58_0 (i := 4) rfl
theorem kc_58_9 : xe_code 58 9 = some (.iconst 1, []) := kg_58_0 (i := 5) rfl
theorem kc_58_10 : xe_code 58 10 = some (.istore_n 1, []) := kg_58_0 (i := 6) rfl
theorem kc_58_11 : xe_code 58 11 = some (.iconst 0, []) := kg_58_0 (i := 7) rfl
theorem kc_58_12 : xe_code 58 12 = some (.istore_n 2, []) := kg_58_0 (i := 8) rfl
theorem kc_58_13 : xe_code 58 13 = some (.iconst 0, []) := kg_58_0 (i := 9) rfl
theorem kc_58_14 : xe_code 58 14 = some (.istore_n 3, []) := kg_58_0 (i := 10) rfl
theorem kc_58_15 : xe_code 58 15 = some (.iload_n 3, []) := kg_58_0 (i := 11) rfl
theorem kc_58_16 : xe_code 58 16 = some (.aload_n 0, []) := kg_58_0 (i := 12) rfl
theorem kc_58_17 : xe_code 58 17 = some (.getfield 279, [12, 45, 992]) := kg_58_0 (i := 13) rfl
theorem kc_58_20 : xe_code 58 20 = some (.if_icmp .ge 24, [44]) := kg_58_0 (i := 14) rfl
theorem kc_58_23 : xe_code 58 23 = some (.iload_n 2, []) := kg_58_0 (i := 15) rfl
theorem kc_58_24 : xe_code 58 24 = some (.iload_n 1, []) := kg_58_0 (i := 16) rfl
theorem kc_58_25 : xe_code 58 25 = some (.aload_n 0, []) := kg_58_0 (i := 17) rfl
theorem kc_58_26 : xe_code 58 26 = some (.getfield 130, [12, 48, 995]) := kg_58_0 (i := 18) rfl
theorem kc_58_29 : xe_code 58 29 = some (.iload_n 3, []) := kg_58_0 (i := 19) rfl
theorem kc_58_30 : xe_code 58 30 = some (.iaload, []) := kg_58_0 (i := 20) rfl
theorem kc_58_31 : xe_code 58 31 = some (.imul, []) := kg_58_0 (i := 21) rfl
theorem kc_58_32 : xe_code 58 32 = some (.iadd, []) := kg_58_0 (i := 22) rfl
theorem kc_58_33 : xe_code 58 33 = some (.istore_n 2, []) := kg_58_0 (i := 23) rfl
theorem kc_58_34 : xe_code 58 34 = some (.iload_n 1, []) := kg_58_0 (i := 24) rfl
theorem kc_58_35 : xe_code 58 35 = some (.iconst 3, []) := kg_58_0 (i := 25) rfl
theorem kc_58_36 : xe_code 58 36 = some (.imul, []) := kg_58_0 (i := 26) rfl
theorem kc_58_37 : xe_code 58 37 = some (.istore_n 1, []) := kg_58_0 (i := 27) rfl
theorem kc_58_38 : xe_code 58 38 = some (.iinc 3 1, []) := kg_58_0 (i := 28) rfl
theorem kc_58_41 : xe_code 58 41 = some (.goto (-26), [15]) := kg_58_0 (i := 29) rfl
theorem kc_58_44 : xe_code 58 44 = some (.iload_n 1, []) := kg_58_0 (i := 30) rfl
theorem kc_58_45 : xe_code 58 45 = some (.iconst 1, []) := kg_58_0 (i := 31) rfl
theorem kc_58_46 : xe_code 58 46 = some (.isub, []) := kg_58_0 (i := 32) rfl
theorem kc_58_47 : xe_code 58 47 = some (.istore_n 3, []) := kg_58_0 (i := 33) rfl
theorem kc_58_48 : xe_code 58 48 = some (.iload_n 3, []) := kg_58_0 (i := 34) rfl
theorem kc_58_49 : xe_code 58 49 = some (.iload_n 2, []) := kg_58_0 (i := 35) rfl
theorem kc_58_50 : xe_code 58 50 = some (.if_icmp .lt 144, [194]) := kg_58_0 (i := 36) rfl
theorem kc_58_53 : xe_code 58 53 = some (.iconst (-1), []) := kg_58_0 (i := 37) rfl
theorem kc_58_54 : xe_code 58 54 = some (.istore 4, []) := kg_58_0 (i := 38) rfl
theorem kc_58_56 : xe_code 58 56 = some (.iconst 1, []) := kg_58_0 (i := 39) rfl
theorem kc_58_57 : xe_code 58 57 = some (.istore 5, []) := kg_58_0 (i := 40) rfl
theorem kc_58_59 : xe_code 58 59 = some (.iconst 0, []) := kg_58_0 (i := 41) rfl
theorem kc_58_60 : xe_code 58 60 = some (.istore 6, []) := kg_58_0 (i := 42) rfl
theorem kc_58_62 : xe_code 58 62 = some (.iload 6, []) := kg_58_0 (i := 43) rfl
theorem kc_58_64 : xe_code 58 64 = some (.aload_n 0, []) := kg_58_0 (i := 44) rfl
theorem kc_58_65 : xe_code 58 65 = some (.getfield 279, [12, 45, 992]) := kg_58_0 (i := 45) rfl
theorem kc_58_68 : xe_code 58 68 = some (.if_icmp .ge 103, [171]) := kg_58_0 (i := 46) rfl
theorem kc_58_71 : xe_code 58 71 = some (.iload_n 3, []) := kg_58_0 (i := 47) rfl
theorem kc_58_72 : xe_code 58 72 = some (.iload 5, []) := kg_58_1 (i := 0) rfl
theorem kc_58_74 : xe_code 58 74 = some (.idiv, []) := kg_58_1 (i := 1) rfl
theorem kc_58_75 : xe_code 58 75 = some (.iconst 3, []) := kg_58_1 (i := 2) rfl
theorem kc_58_76 : xe_code 58 76 = some (.irem, []) := kg_58_1 (i := 3) rfl
theorem kc_58_77 : xe_code 58 77 = some (.ifCond .ne 82, [159]) := kg_58_1 (i := 4) rfl
theorem kc_58_80 : xe_code 58 80 = some (.aload_n 0, []) := kg_58_1 (i := 5) rfl
theorem kc_58_81 : xe_code 58 81 = some (.iload_n 3, []) := kg_58_1 (i := 6) rfl
theorem kc_58_82 : xe_code 58 82 = some (.iload 6, []) := kg_58_1 (i := 7) rfl
theorem kc_58_84 : xe_code 58 84 = some (.invokevirtual 291, [59, 2, 1337, 12]) := kg_58_1 (i := 8) rfl
theorem kc_58_87 : xe_code 58 87 = some (.ifCond .eq 72, [159]) := kg_58_1 (i := 9) rfl
theorem kc_58_90 : xe_code 58 90 = some (.aload_n 0, []) := kg_58_1 (i := 10) rfl
theorem kc_58_91 : xe_code 58 91 = some (.getfield 133, [12, 49, 996]) := kg_58_1 (i := 11) rfl
theorem kc_58_94 : xe_code 58 94 = some (.iload_n 3, []) := kg_58_1 (i := 12) rfl
theorem kc_58_95 : xe_code 58 95 = some (.iload 5, []) := kg_58_1 (i := 13) rfl
theorem kc_58_97 : xe_code 58 97 = some (.iadd, []) := kg_58_1 (i := 14) rfl
theorem kc_58_98 : xe_code 58 98 = some (.iaload, []) := kg_58_1 (i := 15) rfl
theorem kc_58_99 : xe_code 58 99 = some (.istore 7, []) := kg_58_1 (i := 16) rfl
theorem kc_58_101 : xe_code 58 101 = some (.aload_n 0, []) := kg_58_1 (i := 17) rfl
theorem kc_58_102 : xe_code 58 102 = some (.getfield 133, [12, 49, 996]) := kg_58_1 (i := 18) rfl
theorem kc_58_105 : xe_code 58 105 = some (.iload_n 3, []) := kg_58_1 (i := 19) rfl
theorem kc_58_106 : xe_code 58 106 = some (.iconst 2, []) := kg_58_1 (i := 20) rfl
theorem kc_58_107 : xe_code 58 107 = some (.iload 5, []) := kg_58_1 (i := 21) rfl
theorem kc_58_109 : xe_code 58 109 = some (.imul, []) := kg_58_1 (i := 22) rfl
theorem kc_58_110 : xe_code 58 110 = some (.iadd, []) := kg_58_1 (i := 23) rfl
theorem kc_58_111 : xe_code 58 111 = some (.iaload, []) := kg_58_1 (i := 24) rfl
theorem kc_58_112 : xe_code 58 112 = some (.istore 8, []) := kg_58_1 (i := 25) rfl
theorem kc_58_114 : xe_code 58 114 = some (.aload_n 0, []) := kg_58_1 (i := 26) rfl
theorem kc_58_115 : xe_code 58 115 = some (.getfield 127, [12, 47, 994]) := kg_58_1 (i := 27) rfl
theorem kc_58_118 : xe_code 58 118 = some (.iload 6, []) := kg_58_1 (i := 28) rfl
theorem kc_58_120 : xe_code 58 120 = some (.iaload, []) := kg_58_1 (i := 29) rfl
theorem kc_58_121 : xe_code 58 121 = some (.iload 7, []) := kg_58_1 (i := 30) rfl
theorem kc_58_123 : xe_code 58 123 = some (.iload 8, []) := kg_58_1 (i := 31) rfl
theorem kc_58_125 : xe_code 58 125 = some (.if_icmp .le 8, [133]) := kg_58_1 (i := 32) rfl
theorem kc_58_128 : xe_code 58 128 = some (.iload 7, []) := kg_58_1 (i := 33) rfl
theorem kc_58_130 : xe_code 58 130 = some (.goto 5, [135]) := kg_58_1 (i := 34) rfl
theorem kc_58_133 : xe_code 58 133 = some (.iload 8, []) := kg_58_1 (i := 35) rfl
theorem kc_58_135 : xe_code 58 135 = some (.iadd, []) := kg_58_1 (i := 36) rfl
theorem kc_58_136 : xe_code 58 136 = some (.istore 9, []) := kg_58_1 (i := 37) rfl
theorem kc_58_138 : xe_code 58 138 = some (.iload 4, []) := kg_58_1 (i := 38) rfl
theorem kc_58_140 : xe_code 58 140 = some (.ifCond .lt 10, [150]) := kg_58_1 (i := 39) rfl
theorem kc_58_143 : xe_code 58 143 = some (.iload 9, []) := kg_58_1 (i := 40) rfl
theorem kc_58_145 : xe_code 58 145 = some (.iload 4, []) := kg_58_1 (i := 41) rfl
theorem kc_58_147 : xe_code 58 147 = some (.if_icmp .ge 8, [155]) := kg_58_1 (i := 42) rfl
theorem kc_58_150 : xe_code 58 150 = some (.iload 9, []) := kg_58_1 (i := 43) rfl
theorem kc_58_152 : xe_code 58 152 = some (.goto 5, [157]) := kg_58_1 (i := 44) rfl
theorem kc_58_155 : xe_code 58 155 = some (.iload 4, []) := kg_58_1 (i := 45) rfl
theorem kc_58_157 : xe_code 58 157 = some (.istore 4, []) := kg_58_1 (i := 46) rfl
theorem kc_58_159 : xe_code 58 159 = some (.iload 5, []) := kg_58_1 (i := 47) rfl
theorem kc_58_161 : xe_code 58 161 = some (.iconst 3, []) := kg_58_2 (i := 0) rfl
theorem kc_58_162 : xe_code 58 162 = some (.imul, []) := kg_58_2 (i := 1) rfl
theorem kc_58_163 : xe_code 58 163 = some (.istore 5, []) := kg_58_2 (i := 2) rfl
theorem kc_58_165 : xe_code 58 165 = some (.iinc 6 1, []) := kg_58_2 (i := 3) rfl
theorem kc_58_168 : xe_code 58 168 = some (.goto (-106), [62]) := kg_58_2 (i := 4) rfl
theorem kc_58_171 : xe_code 58 171 = some (.aload_n 0, []) := kg_58_2 (i := 5) rfl
theorem kc_58_172 : xe_code 58 172 = some (.getfield 133, [12, 49, 996]) := kg_58_2 (i := 6) rfl
theorem kc_58_175 : xe_code 58 175 = some (.iload_n 3, []) := kg_58_2 (i := 7) rfl
theorem kc_58_176 : xe_code 58 176 = some (.iload 4, []) := kg_58_2 (i := 8) rfl
theorem kc_58_178 : xe_code 58 178 = some (.ifCond .ge 7, [185]) := kg_58_2 (i := 9) rfl
theorem kc_58_181 : xe_code 58 181 = some (.iconst 0, []) := kg_58_2 (i := 10) rfl
theorem kc_58_182 : xe_code 58 182 = some (.goto 5, [187]) := kg_58_2 (i := 11) rfl
theorem kc_58_185 : xe_code 58 185 = some (.iload 4, []) := kg_58_2 (i := 12) rfl
theorem kc_58_187 : xe_code 58 187 = some (.iastore, []) := kg_58_2 (i := 13) rfl
theorem kc_58_188 : xe_code 58 188 = some (.iinc 3 (-1), []) := kg_58_2 (i := 14) rfl
theorem kc_58_191 : xe_code 58 191 = some (.goto (-143), [48]) := kg_58_2 (i := 15) rfl
theorem kc_58_194 : xe_code 58 194 = some (.aload_n 0, []) := kg_58_2 (i := 16) rfl
theorem kc_58_195 : xe_code 58 195 = some (.getfield 133, [12, 49, 996]) := kg_58_2 (i := 17) rfl
theorem kc_58_198 : xe_code 58 198 = some (.iload_n 2, []) := kg_58_2 (i := 18) rfl
theorem kc_58_199 : xe_code 58 199 = some (.iaload, []) := kg_58_2 (i := 19) rfl
theorem kc_58_200 : xe_code 58 200 = some (.ireturn, []) := kg_58_2 (i := 20) rfl
theorem kc_59_0 : xe_code 59 0 = some (.iconst 0, []) := kg_59_0 (i := 0) rfl
theorem kc_59_1 : xe_code 59 1 = some (.istore_n 3, []) := kg_59_0 (i := 1) rfl
theorem kc_59_2 : xe_code 59 2 = some (.iconst 0, []) := kg_59_0 (i := 2) rfl
theorem kc_59_3 : xe_code 59 3 = some (.istore 4, []) := kg_59_0 (i := 3) rfl
theorem kc_59_5 : xe_code 59 5 = some (.iconst 0, []) := kg_59_0 (i := 4) rfl
theorem kc_59_6 : xe_code 59 6 = some (.istore 5, []) := kg_59_0 (i := 5) rfl
theorem kc_59_8 : xe_code 59 8 = some (.iload 5, []) := kg_59_0 (i := 6) rfl
theorem kc_59_10 : xe_code 59 10 = some (.aload_n 0, []) := kg_59_0 (i := 7) rfl
theorem kc_59_11 : xe_code 59 11 = some (.invokevirtual 262, [42, 0, 1270, 12]) := kg_59_0 (i := 8) rfl
theorem kc_59_14 : xe_code 59 14 = some (.if_icmp .ge 72, [86]) := kg_59_0 (i := 9) rfl
theorem kc_59_17 : xe_code 59 17 = some (.iload_n 3, []) := kg_59_0 (i := 10) rfl
theorem kc_59_18 : xe_code 59 18 = some (.ifCond .eq 8, [26]) := kg_59_0 (i := 11) rfl
theorem kc_59_21 : xe_code 59 21 = some (.iload 4, []) := kg_59_0 (i := 12) rfl
theorem kc_59_23 : xe_code 59 23 = some (.ifCond .ne 63, [86]) := kg_59_0 (i := 13) rfl
theorem kc_59_26 : xe_code 59 26 = some (.aload_n 0, []) := kg_59_0 (i := 14) rfl
theorem kc_59_27 : xe_code 59 27 = some (.iload 5, []) := kg_59_0 (i := 15) rfl
theorem kc_59_29 : xe_code 59 29 = some (.iload_n 1, []) := kg_59_0 (i := 16) rfl
theorem kc_59_30 : xe_code 59 30 = some (.invokevirtual 295, [60, 2, 1341, 12]) := kg_59_0 (i := 17) rfl
theorem kc_59_33 : xe_code 59 33 = some (.ifCond .eq 47, [80]) := kg_59_0 (i := 18) rfl
theorem kc_59_36 : xe_code 59 36 = some (.iload_n 3, []) := kg_59_0 (i := 19) rfl
theorem kc_59_37 : xe_code 59 37 = some (.ifCond .ne 14, [51]) := kg_59_0 (i := 20) rfl
theorem kc_59_40 : xe_code 59 40 = some (.aload_n 0, []) := kg_59_0 (i := 21) rfl
theorem kc_59_41 : xe_code 59 41 = some (.iload_n 2, []) := kg_59_0 (i := 22) rfl
theorem kc_59_42 : xe_code 59 42 = some (.iload 5, []) := kg_59_0 (i := 23) rfl
theorem kc_59_44 : xe_code 59 44 = some (.invokevirtual 282, [54, 2, 1317, 12]) := kg_59_0 (i := 24) rfl
theorem kc_59_47 : xe_code 59 47 = some (.iconst 1, []) := kg_59_0 (i := 25) rfl
theorem kc_59_48 : xe_code 59 48 = some (.if_icmp .ne 7, [55]) := kg_59_0 (i := 26) rfl
theorem kc_59_51 : xe_code 59 51 = some (.iconst 1, []) := kg_59_0 (i := 27) rfl
theorem kc_59_52 : xe_code 59 52 = some (.goto 4, [56]) := kg_59_0 (i := 28) rfl
theorem kc_59_55 : xe_code 59 55 = some (.iconst 0, []) := kg_59_0 (i := 29) rfl
theorem kc_59_56 : xe_code 59 56 = some (.istore_n 3, []) := kg_59_0 (i := 30) rfl
theorem kc_59_57 : xe_code 59 57 = some (.iload 4, []) := kg_59_0 (i := 31) rfl
theorem kc_59_59 : xe_code 59 59 = some (.ifCond .ne 14, [73]) := kg_59_0 (i := 32) rfl
theorem kc_59_62 : xe_code 59 62 = some (.aload_n 0, []) := kg_59_0 (i := 33) rfl
theorem kc_59_63 : xe_code 59 63 = some (.iload_n 2, []) := kg_59_0 (i := 34) rfl
theorem kc_59_64 : xe_code 59 64 = some (.iload 5, []) := kg_59_0 (i := 35) rfl
theorem kc_59_66 : xe_code 59 66 = some (.invokevirtual 282, [54, 2, 1317, 12]) := kg_59_0 (i := 36) rfl
theorem kc_59_69 : xe_code 59 69 = some (.iconst 2, []) := kg_59_0 (i := 37) rfl
theorem kc_59_70 : xe_code 59 70 = some (.if_icmp .ne 7, [77]) := kg_59_0 (i := 38) rfl
theorem kc_59_73 : xe_code 59 73 = some (.iconst 1, []) := kg_59_0 (i := 39) rfl
theorem kc_59_74 : xe_code 59 74 = some (.goto 4, [78]) := kg_59_0 (i := 40) rfl
theorem kc_59_77 : xe_code 59 77 = some (.iconst 0, []) := kg_59_0 (i := 41) rfl
theorem kc_59_78 : xe_code 59 78 = some (.istore 4, []) := kg_59_0 (i := 42) rfl
theorem kc_59_80 : xe_code 59 80 = some (.iinc 5 1, []) := kg_59_0 (i := 43) rfl
theorem kc_59_83 : xe_code 59 83 = some (.goto (-75), [8]) := kg_59_0 (i := 44) rfl
theorem kc_59_86 : xe_code 59 86 = some (.iload_n 3, []) := kg_59_0 (i := 45) rfl
theorem kc_59_87 : xe_code 59 87 = some (.ifCond .eq 12, [99]) := kg_59_0 (i := 46) rfl
theorem kc_59_90 : xe_code 59 90 = some (.iload 4, []) := kg_59_0 (i := 47) rfl
theorem kc_59_92 : xe_code 59 92 = some (.ifCond .eq 7, [99]) := kg_59_1 (i := 0) rfl
theorem kc_59_95 : xe_code 59 95 = some (.iconst 1, []) := kg_59_1 (i := 1) rfl
theorem kc_59_96 : xe_code 59 96 = some (.goto 4, [100]) := kg_59_1 (i := 2) rfl
theorem kc_59_99 : xe_code 59 99 = some (.iconst 0, []) := kg_59_1 (i := 3) rfl
theorem kc_59_100 : xe_code 59 100 = some (.ireturn, []) := kg_59_1 (i := 4) rfl
theorem kc_60_0 : xe_code 60 0 = some (.iload_n 2, []) := kg_60_0 (i := 0) rfl
theorem kc_60_1 : xe_code 60 1 = some (.istore_n 3, []) := kg_60_0 (i := 1) rfl
theorem kc_60_2 : xe_code 60 2 = some (.aload_n 0, []) := kg_60_0 (i := 2) rfl
theorem kc_60_3 : xe_code 60 3 = some (.iload_n 1, []) := kg_60_0 (i := 3) rfl
theorem kc_60_4 : xe_code 60 4 = some (.invokevirtual 285, [53, 1, 1313, 12]) := kg_60_0 (i := 4) rfl
theorem kc_60_7 : xe_code 60 7 = some (.istore 4, []) := kg_60_0 (i := 5) rfl
theorem kc_60_9 : xe_code 60 9 = some (.iconst 0, []) := kg_60_0 (i := 6) rfl
theorem kc_60_10 : xe_code 60 10 = some (.istore 5, []) := kg_60_0 (i := 7) rfl
theorem kc_60_12 : xe_code 60 12 = some (.iload 5, []) := kg_60_0 (i := 8) rfl
theorem kc_60_14 : xe_code 60 14 = some (.aload_n 0, []) := kg_60_0 (i := 9) rfl
theorem kc_60_15 : xe_code 60 15 = some (.getfield 279, [12, 45, 992]) := kg_60_0 (i := 10) rfl
theorem kc_60_18 : xe_code 60 18 = some (.if_icmp .ge 44, [62]) := kg_60_0 (i := 11) rfl
theorem kc_60_21 : xe_code 60 21 = some (.iload 4, []) := kg_60_0 (i := 12) rfl
theorem kc_60_23 : xe_code 60 23 = some (.ifCond .eq 39, [62]) := kg_60_0 (i := 13) rfl
theorem kc_60_26 : xe_code 60 26 = some (.iload_n 3, []) := kg_60_0 (i := 14) rfl
theorem kc_60_27 : xe_code 60 27 = some (.iconst 3, []) := kg_60_0 (i := 15) rfl
theorem kc_60_28 : xe_code 60 28 = some (.irem, []) := kg_60_0 (i := 16) rfl
theorem kc_60_29 : xe_code 60 29 = some (.ifCond .eq 16, [45]) := kg_60_0 (i := 17) rfl
theorem kc_60_32 : xe_code 60 32 = some (.iload_n 3, []) := kg_60_0 (i := 18) rfl
theorem kc_60_33 : xe_code 60 33 = some (.iconst 3, []) := kg_60_0 (i := 19) rfl
theorem kc_60_34 : xe_code 60 34 = some (.irem, []) := kg_60_0 (i := 20) rfl
theorem kc_60_35 : xe_code 60 35 = some (.aload_n 0, []) := kg_60_0 (i := 21) rfl
theorem kc_60_36 : xe_code 60 36 = some (.iload 5, []) := kg_60_0 (i := 22) rfl
theorem kc_60_38 : xe_code 60 38 = some (.iload_n 1, []) := kg_60_0 (i := 23) rfl
theorem kc_60_39 : xe_code 60 39 = some (.invokevirtual 282, [54, 2, 1317, 12]) := kg_60_0 (i := 24) rfl
theorem kc_60_42 : xe_code 60 42 = some (.if_icmp .ne 7, [49]) := kg_60_0 (i := 25) rfl
theorem kc_60_45 : xe_code 60 45 = some (.iconst 1, []) := kg_60_0 (i := 26) rfl
theorem kc_60_46 : xe_code 60 46 = some (.goto 4, [50]) := kg_60_0 (i := 27) rfl
theorem kc_60_49 : xe_code 60 49 = some (.iconst 0, []) := kg_60_0 (i := 28) rfl
theorem kc_60_50 : xe_code 60 50 = some (.istore 4, []) := kg_60_0 (i := 29) rfl
theorem kc_60_52 : xe_code 60 52 = some (.iload_n 3, []) := kg_60_0 (i := 30) rfl
theorem kc_60_53 : xe_code 60 53 = some (.iconst 3, []) := kg_60_0 (i := 31) rfl
theorem kc_60_54 : xe_code 60 54 = some (.idiv, []) := kg_60_0 (i := 32) rfl
theorem kc_60_55 : xe_code 60 55 = some (.istore_n 3, []) := kg_60_0 (i := 33) rfl
theorem kc_60_56 : xe_code 60 56 = some (.iinc 5 1, []) := kg_60_0 (i := 34) rfl
theorem kc_60_59 : xe_code 60 59 = some (.goto (-47), [12]) := kg_60_0 (i := 35) rfl
theorem kc_60_62 : xe_code 60 62 = some (.iload 4, []) := kg_60_0 (i := 36) rfl
theorem kc_60_64 : xe_code 60 64 = some (.ireturn, []) := kg_60_0 (i := 37) rfl
theorem kc_61_0 : xe_code 61 0 = some (.aload_n 0, []) := kg_61_0 (i := 0) rfl
theorem kc_61_1 : xe_code 61 1 = some (.iconst 0, []) := kg_61_0 (i := 1) rfl
theorem kc_61_2 : xe_code 61 2 = some (.putfield 169, [12, 0, 947]) := kg_61_0 (i := 2) rfl
theorem kc_61_5 : xe_code 61 5 = some (.iload_n 1, []) := kg_61_0 (i := 3) rfl
theorem kc_61_6 : xe_code 61 6 = some (.invokestatic 185, [10, 1, 1145, 12]) := kg_61_0 (i := 4) rfl
theorem kc_61_9 : xe_code 61 9 = some (.ifCond .ne 9, [18]) := kg_61_0 (i := 5) rfl
theorem kc_61_12 : xe_code 61 12 = some (.aload_n 0, []) := kg_61_0 (i := 6) rfl
theorem kc_61_13 : xe_code 61 13 = some (.iconst (-1), []) := kg_61_0 (i := 7) rfl
theorem kc_61_14 : xe_code 61 14 = some (.invokevirtual 188, [12, 1, 1151, 12]) := kg_61_0 (i := 8) rfl
theorem kc_61_17 : xe_code 61 17 = some (.ireturn, []) := kg_61_0 (i := 9) rfl
theorem kc_61_18 : xe_code 61 18 = some (.iload_n 2, []) := kg_61_0 (i := 10) rfl
theorem kc_61_19 : xe_code 61 19 = some (.iconst 0, []) := kg_61_0 (i := 11) rfl
theorem kc_61_20 : xe_code 61 20 = some (.iconst 1, []) := kg_61_0 (i := 12) rfl
theorem kc_61_21 : xe_code 61 21 = some (.invokestatic 173, [11, 3, 1148, 12]) := kg_61_0 (i := 13) rfl
theorem kc_61_24 : xe_code 61 24 = some (.ifCond .ne 10, [34]) := kg_61_0 (i := 14) rfl
theorem kc_61_27 : xe_code 61 27 = some (.aload_n 0, []) := kg_61_0 (i := 15) rfl
theorem kc_61_28 : xe_code 61 28 = some (.bipush (-2), []) := kg_61_0 (i := 16) rfl
theorem kc_61_30 : xe_code 61 30 = some (.invokevirtual 188, [12, 1, 1151, 12]) := kg_61_0 (i := 17) rfl
theorem kc_61_33 : xe_code 61 33 = some (.ireturn, []) := kg_61_0 (i := 18) rfl
theorem kc_61_34 : xe_code 61 34 = some (.iconst 0, []) := kg_61_0 (i := 19) rfl
theorem kc_61_35 : xe_code 61 35 = some (.istore 6, []) := kg_61_0 (i := 20) rfl
theorem kc_61_37 : xe_code 61 37 = some (.iload 6, []) := kg_61_0 (i := 21) rfl
theorem kc_61_39 : xe_code 61 39 = some (.aload_n 0, []) := kg_61_0 (i := 22) rfl
theorem kc_61_40 : xe_code 61 40 = some (.getfield 249, [12, 34, 981]) := kg_61_0 (i := 23) rfl
theorem kc_61_43 : xe_code 61 43 = some (.if_icmp .ge 51, [94]) := kg_61_0 (i := 24) rfl
theorem kc_61_46 : xe_code 61 46 = some (.aload_n 0, []) := kg_61_0 (i := 25) rfl
theorem kc_61_47 : xe_code 61 47 = some (.getfield 96, [12, 35, 982]) := kg_61_0 (i := 26) rfl
theorem kc_61_50 : xe_code 61 50 = some (.iload 6, []) := kg_61_0 (i := 27) rfl
theorem kc_61_52 : xe_code 61 52 = some (.iaload, []) := kg_61_0 (i := 28) rfl
theorem kc_61_53 : xe_code 61 53 = some (.iload_n 1, []) := kg_61_0 (i := 29) rfl
theorem kc_61_54 : xe_code 61 54 = some (.if_icmp .ne 34, [88]) := kg_61_0 (i := 30) rfl
theorem kc_61_57 : xe_code 61 57 = some (.iload 4, []) := kg_61_0 (i := 31) rfl
theorem kc_61_59 : xe_code 61 59 = some (.aload_n 0, []) := kg_61_0 (i := 32) rfl
theorem kc_61_60 : xe_code 61 60 = some (.getfield 108, [12, 39, 986]) := kg_61_0 (i := 33) rfl
theorem kc_61_63 : xe_code 61 63 = some (.iload 6, []) := kg_61_0 (i := 34) rfl
theorem kc_61_65 : xe_code 61 65 = some (.iaload, []) := kg_61_0 (i := 35) rfl
theorem kc_61_66 : xe_code 61 66 = some (.if_icmp .ge 22, [88]) := kg_61_0 (i := 36) rfl
theorem kc_61_69 : xe_code 61 69 = some (.iload 5, []) := kg_61_0 (i := 37) rfl
theorem kc_61_71 : xe_code 61 71 = some (.aload_n 0, []) := kg_61_0 (i := 38) rfl
theorem kc_61_72 : xe_code 61 72 = some (.getfield 105, [12, 38, 985]) := kg_61_0 (i := 39) rfl
theorem kc_61_75 : xe_code 61 75 = some (.iload 6, []) := kg_61_0 (i := 40) rfl
theorem kc_61_77 : xe_code 61 77 = some (.iaload, []) := kg_61_0 (i := 41) rfl
theorem kc_61_78 : xe_code 61 78 = some (.if_icmp .le 10, [88]) := kg_61_0 (i := 42) rfl
theorem kc_61_81 : xe_code 61 81 = some (.aload_n 0, []) := kg_61_0 (i := 43) rfl
theorem kc_61_82 : xe_code 61 82 = some (.bipush (-3), []) := kg_61_0 (i := 44) rfl
theorem kc_61_84 : xe_code 61 84 = some (.invokevirtual 188, [12, 1, 1151, 12]) := kg_61_0 (i := 45) rfl
theorem kc_61_87 : xe_code 61 87 = some (.ireturn, []) := kg_61_0 (i := 46) rfl
theorem kc_61_88 : xe_code 61 88 = some (.iinc 6 1, []) := kg_61_0 (i := 47) rfl
theorem kc_61_91 : xe_code 61 91 = some (.goto (-54), [37]) := kg_61_1 (i := 0) rfl
theorem kc_61_94 : xe_code 61 94 = some (.iload_n 3, []) := kg_61_1 (i := 1) rfl
theorem kc_61_95 : xe_code 61 95 = some (.ifCond .lt 19, [114]) := kg_61_1 (i := 2) rfl
theorem kc_61_98 : xe_code 61 98 = some (.iload 4, []) := kg_61_1 (i := 3) rfl
theorem kc_61_100 : xe_code 61 100 = some (.aload_n 0, []) := kg_61_1 (i := 4) rfl
theorem kc_61_101 : xe_code 61 101 = some (.getfield 213, [12, 1, 948]) := kg_61_1 (i := 5) rfl
theorem kc_61_104 : xe_code 61 104 = some (.if_icmp .lt 10, [114]) := kg_61_1 (i := 6) rfl
theorem kc_61_107 : xe_code 61 107 = some (.iload 5, []) := kg_61_1 (i := 7) rfl
theorem kc_61_109 : xe_code 61 109 = some (.iload 4, []) := kg_61_1 (i := 8) rfl
theorem kc_61_111 : xe_code 61 111 = some (.if_icmp .gt 10, [121]) := kg_61_1 (i := 9) rfl
theorem kc_61_114 : xe_code 61 114 = some (.aload_n 0, []) := kg_61_1 (i := 10) rfl
theorem kc_61_115 : xe_code 61 115 = some (.bipush (-4), []) := kg_61_1 (i := 11) rfl
theorem kc_61_117 : xe_code 61 117 = some (.invokevirtual 188, [12, 1, 1151, 12]) := kg_61_1 (i := 12) rfl
theorem kc_61_120 : xe_code 61 120 = some (.ireturn, []) := kg_61_1 (i := 13) rfl
theorem kc_61_121 : xe_code 61 121 = some (.iload 5, []) := kg_61_1 (i := 14) rfl
theorem kc_61_123 : xe_code 61 123 = some (.sipush 600, []) := kg_61_1 (i := 15) rfl
theorem kc_61_126 : xe_code 61 126 = some (.if_icmp .gt 18, [144]) := kg_61_1 (i := 16) rfl
theorem kc_61_129 : xe_code 61 129 = some (.iload_n 3, []) := kg_61_1 (i := 17) rfl
theorem kc_61_130 : xe_code 61 130 = some (.bipush 50, []) := kg_61_1 (i := 18) rfl
theorem kc_61_132 : xe_code 61 132 = some (.if_icmp .gt 12, [144]) := kg_61_1 (i := 19) rfl
theorem kc_61_135 : xe_code 61 135 = some (.aload_n 0, []) := kg_61_1 (i := 20) rfl
theorem kc_61_136 : xe_code 61 136 = some (.getfield 249, [12, 34, 981]) := kg_61_1 (i := 21) rfl
theorem kc_61_139 : xe_code 61 139 = some (.bipush 20, []) := kg_61_1 (i := 22) rfl
theorem kc_61_141 : xe_code 61 141 = some (.if_icmp .ne 10, [151]) := kg_61_1 (i := 23) rfl
theorem kc_61_144 : xe_code 61 144 = some (.aload_n 0, []) := kg_61_1 (i := 24) rfl
theorem kc_61_145 : xe_code 61 145 = some (.bipush (-6), []) := kg_61_1 (i := 25) rfl
theorem kc_61_147 : xe_code 61 147 = some (.invokevirtual 188, [12, 1, 1151, 12]) := kg_61_1 (i := 26) rfl
theorem kc_61_150 : xe_code 61 150 = some (.ireturn, []) := kg_61_1 (i := 27) rfl
theorem kc_61_151 : xe_code 61 151 = some (.aload_n 0, []) := kg_61_1 (i := 28) rfl
theorem kc_61_152 : xe_code 61 152 = some (.getfield 96, [12, 35, 982]) := kg_61_1 (i := 29) rfl
theorem kc_61_155 : xe_code 61 155 = some (.aload_n 0, []) := kg_61_1 (i := 30) rfl
