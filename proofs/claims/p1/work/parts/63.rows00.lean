theorem ml_0 : xe_mL 0 = 1 := rfl
theorem ml_1 : xe_mL 1 = 4 := rfl
theorem ml_2 : xe_mL 2 = 1 := rfl
theorem ml_3 : xe_mL 3 = 3 := rfl
theorem ml_4 : xe_mL 4 = 1 := rfl
theorem ml_5 : xe_mL 5 = 2 := rfl
theorem ml_6 : xe_mL 6 = 2 := rfl
theorem ml_7 : xe_mL 7 = 2 := rfl
theorem ml_8 : xe_mL 8 = 2 := rfl
theorem ml_9 : xe_mL 9 = 1 := rfl
theorem ml_10 : xe_mL 10 = 5 := rfl
theorem ml_11 : xe_mL 11 = 1 := rfl
theorem ml_12 : xe_mL 12 = 3 := rfl
theorem ml_13 : xe_mL 13 = 2 := rfl
theorem ml_14 : xe_mL 14 = 3 := rfl
theorem ml_15 : xe_mL 15 = 4 := rfl
theorem ml_16 : xe_mL 16 = 5 := rfl
theorem ml_17 : xe_mL 17 = 5 := rfl
theorem ml_18 : xe_mL 18 = 2 := rfl
theorem ml_19 : xe_mL 19 = 3 := rfl
theorem ml_20 : xe_mL 20 = 3 := rfl
theorem ml_21 : xe_mL 21 = 3 := rfl
theorem ml_22 : xe_mL 22 = 2 := rfl
theorem ml_23 : xe_mL 23 = 2 := rfl
theorem ml_24 : xe_mL 24 = 6 := rfl
theorem ml_25 : xe_mL 25 = 1 := rfl
theorem ml_26 : xe_mL 26 = 3 := rfl
theorem ml_27 : xe_mL 27 = 4 := rfl
theorem ml_28 : xe_mL 28 = 3 := rfl
theorem ml_29 : xe_mL 29 = 3 := rfl
theorem ml_30 : xe_mL 30 = 2 := rfl
theorem ml_31 : xe_mL 31 = 5 := rfl
theorem ml_32 : xe_mL 32 = 2 := rfl
theorem ml_33 : xe_mL 33 = 5 := rfl
theorem ml_34 : xe_mL 34 = 4 := rfl
theorem ml_35 : xe_mL 35 = 3 := rfl
theorem ml_36 : xe_mL 36 = 3 := rfl
theorem ml_37 : xe_mL 37 = 6 := rfl
theorem ml_38 : xe_mL 38 = 9 := rfl
theorem ml_39 : xe_mL 39 = 5 := rfl
theorem ml_40 : xe_mL 40 = 1 := rfl
theorem ml_41 : xe_mL 41 = 9 := rfl
theorem ml_42 : xe_mL 42 = 2 := rfl
theorem ml_43 : xe_mL 43 = 1 := rfl
theorem ml_44 : xe_mL 44 = 2 := rfl
theorem ml_45 : xe_mL 45 = 4 := rfl
theorem ml_46 : xe_mL 46 = 9 := rfl
theorem ml_47 : xe_mL 47 = 5 := rfl
theorem ml_48 : xe_mL 48 = 1 := rfl
theorem ml_49 : xe_mL 49 = 4 := rfl
theorem ml_50 : xe_mL 50 = 3 := rfl
theorem ml_51 : xe_mL 51 = 5 := rfl
theorem ml_52 : xe_mL 52 = 1 := rfl
theorem ml_53 : xe_mL 53 = 3 := rfl
theorem ml_54 : xe_mL 54 = 4 := rfl
theorem ml_55 : xe_mL 55 = 3 := rfl
theorem ml_56 : xe_mL 56 = 3 := rfl
theorem ml_57 : xe_mL 57 = 3 := rfl
theorem ml_58 : xe_mL 58 = 7 := rfl
theorem ml_59 : xe_mL 59 = 10 := rfl
theorem ml_60 : xe_mL 60 = 6 := rfl
theorem ml_61 : xe_mL 61 = 6 := rfl
theorem ml_62 : xe_mL 62 = 7 := rfl
theorem ml_63 : xe_mL 63 = 7 := rfl
theorem ml_64 : xe_mL 64 = 9 := rfl
theorem ml_65 : xe_mL 65 = 6 := rfl
theorem ml_66 : xe_mL 66 = 1 := rfl
theorem ml_67 : xe_mL 67 = 4 := rfl
theorem ml_68 : xe_mL 68 = 5 := rfl
theorem ml_69 : xe_mL 69 = 9 := rfl
theorem ml_70 : xe_mL 70 = 2 := rfl
theorem ml_71 : xe_mL 71 = 5 := rfl
theorem ml_72 : xe_mL 72 = 3 := rfl
theorem ml_73 : xe_mL 73 = 4 := rfl
theorem ml_74 : xe_mL 74 = 8 := rfl
theorem ml_75 : xe_mL 75 = 2 := rfl
theorem ml_76 : xe_mL 76 = 4 := rfl
theorem ml_77 : xe_mL 77 = 2 := rfl
theorem ml_78 : xe_mL 78 = 2 := rfl
theorem ml_79 : xe_mL 79 = 2 := rfl
theorem ml_80 : xe_mL 80 = 1 := rfl
theorem ml_81 : xe_mL 81 = 1 := rfl
theorem ml_82 : xe_mL 82 = 1 := rfl
theorem ml_83 : xe_mL 83 = 1 := rfl
theorem ml_84 : xe_mL 84 = 2 := rfl
theorem ml_85 : xe_mL 85 = 1 := rfl
theorem ml_86 : xe_mL 86 = 1 := rfl
theorem ml_87 : xe_mL 87 = 1 := rfl
theorem ml_88 : xe_mL 88 = 1 := rfl
theorem ml_89 : xe_mL 89 = 5 := rfl
theorem ml_90 : xe_mL 90 = 1 := rfl
theorem ml_91 : xe_mL 91 = 3 := rfl
theorem ml_92 : xe_mL 92 = 1 := rfl
theorem ml_93 : xe_mL 93 = 4 := rfl
theorem ml_94 : xe_mL 94 = 4 := rfl
theorem ml_95 : xe_mL 95 = 6 := rfl
theorem ml_96 : xe_mL 96 = 6 := rfl
theorem ml_97 : xe_mL 97 = 2 := rfl
theorem ml_98 : xe_mL 98 = 2 := rfl
theorem ml_99 : xe_mL 99 = 6 := rfl
theorem ml_100 : xe_mL 100 = 2 := rfl
theorem ml_101 : xe_mL 101 = 3 := rfl
theorem ml_102 : xe_mL 102 = 2 := rfl
theorem ml_103 : xe_mL 103 = 2 := rfl
theorem ml_104 : xe_mL 104 = 7 := rfl
theorem ml_105 : xe_mL 105 = 1 := rfl
theorem ml_106 : xe_mL 106 = 1 := rfl
theorem ml_107 : xe_mL 107 = 4 := rfl
theorem ml_108 : xe_mL 108 = 4 := rfl
theorem ml_109 : xe_mL 109 = 2 := rfl
theorem ml_110 : xe_mL 110 = 3 := rfl
theorem ml_111 : xe_mL 111 = 3 := rfl
theorem ml_112 : xe_mL 112 = 3 := rfl
theorem ml_113 : xe_mL 113 = 2 := rfl
theorem ml_114 : xe_mL 114 = 5 := rfl
theorem ml_115 : xe_mL 115 = 2 := rfl
theorem ml_116 : xe_mL 116 = 5 := rfl
theorem ml_117 : xe_mL 117 = 5 := rfl
theorem ml_118 : xe_mL 118 = 1 := rfl
theorem ml_119 : xe_mL 119 = 3 := rfl
theorem ml_120 : xe_mL 120 = 6 := rfl
theorem ml_121 : xe_mL 121 = 5 := rfl
theorem ml_122 : xe_mL 122 = 3 := rfl
theorem ml_123 : xe_mL 123 = 1 := rfl
theorem ml_124 : xe_mL 124 = 3 := rfl
theorem ml_125 : xe_mL 125 = 5 := rfl
theorem ml_126 : xe_mL 126 = 4 := rfl
theorem ml_127 : xe_mL 127 = 4 := rfl
theorem ml_128 : xe_mL 128 = 4 := rfl
theorem ml_129 : xe_mL 129 = 11 := rfl
theorem ml_130 : xe_mL 130 = 1 := rfl
theorem ml_131 : xe_mL 131 = 10 := rfl
theorem ml_132 : xe_mL 132 = 4 := rfl
theorem ml_133 : xe_mL 133 = 4 := rfl
theorem ml_134 : xe_mL 134 = 3 := rfl
theorem ml_135 : xe_mL 135 = 4 := rfl
theorem ml_136 : xe_mL 136 = 4 := rfl
theorem ml_137 : xe_mL 137 = 3 := rfl
theorem ml_138 : xe_mL 138 = 3 := rfl
theorem ml_139 : xe_mL 139 = 2 := rfl
theorem ml_140 : xe_mL 140 = 1 := rfl
theorem ml_141 : xe_mL 141 = 1 := rfl
theorem ml_142 : xe_mL 142 = 5 := rfl
theorem ml_143 : xe_mL 143 = 3 := rfl
theorem ml_144 : xe_mL 144 = 3 := rfl
theorem ml_145 : xe_mL 145 = 1 := rfl
theorem ml_146 : xe_mL 146 = 5 := rfl
theorem ml_147 : xe_mL 147 = 7 := rfl
theorem ml_148 : xe_mL 148 = 3 := rfl
theorem ml_149 : xe_mL 149 = 3 := rfl
theorem ml_150 : xe_mL 150 = 4 := rfl
theorem ml_151 : xe_mL 151 = 4 := rfl
theorem ml_152 : xe_mL 152 = 1 := rfl
theorem ml_153 : xe_mL 153 = 1 := rfl
theorem ml_154 : xe_mL 154 = 4 := rfl
theorem ml_155 : xe_mL 155 = 6 := rfl
theorem ml_156 : xe_mL 156 = 3 := rfl
theorem ml_157 : xe_mL 157 = 6 := rfl
theorem ml_158 : xe_mL 158 = 3 := rfl
theorem ml_159 : xe_mL 159 = 1 := rfl
theorem ml_160 : xe_mL 160 = 9 := rfl
theorem ml_161 : xe_mL 161 = 1 := rfl
theorem ml_162 : xe_mL 162 = 3 := rfl
theorem ml_163 : xe_mL 163 = 13 := rfl
theorem ml_164 : xe_mL 164 = 7 := rfl
theorem ml_165 : xe_mL 165 = 6 := rfl
theorem ml_166 : xe_mL 166 = 6 := rfl
theorem ml_167 : xe_mL 167 = 12 := rfl
theorem ml_168 : xe_mL 168 = 5 := rfl
theorem ml_169 : xe_mL 169 = 6 := rfl
theorem ml_170 : xe_mL 170 = 1 := rfl
theorem ml_171 : xe_mL 171 = 4 := rfl
theorem ml_172 : xe_mL 172 = 5 := rfl
theorem ml_173 : xe_mL 173 = 2 := rfl
theorem ml_174 : xe_mL 174 = 3 := rfl
theorem ml_175 : xe_mL 175 = 5 := rfl
theorem ml_176 : xe_mL 176 = 5 := rfl
theorem ml_177 : xe_mL 177 = 9 := rfl
theorem ml_178 : xe_mL 178 = 5 := rfl
theorem ml_179 : xe_mL 179 = 5 := rfl
theorem ml_180 : xe_mL 180 = 2 := rfl
theorem ml_181 : xe_mL 181 = 4 := rfl
theorem ml_182 : xe_mL 182 = 6 := rfl
theorem ml_183 : xe_mL 183 = 5 := rfl
theorem ml_184 : xe_mL 184 = 4 := rfl
theorem ml_185 : xe_mL 185 = 4 := rfl
theorem ml_186 : xe_mL 186 = 6 := rfl
theorem ml_187 : xe_mL 187 = 2 := rfl
theorem ml_188 : xe_mL 188 = 2 := rfl
theorem ml_189 : xe_mL 189 = 2 := rfl
theorem ml_190 : xe_mL 190 = 2 := rfl
theorem ml_191 : xe_mL 191 = 2 := rfl
theorem ml_192 : xe_mL 192 = 3 := rfl
theorem ml_193 : xe_mL 193 = 3 := rfl
theorem ml_194 : xe_mL 194 = 2 := rfl
theorem ml_195 : xe_mL 195 = 4 := rfl
theorem ml_196 : xe_mL 196 = 8 := rfl
theorem mr_0 : xe_mR 0 = none := rfl
theorem mr_1 : xe_mR 1 = none := rfl
theorem mr_2 : xe_mR 2 = some .int := rfl
theorem mr_3 : xe_mR 3 = some .int := rfl
theorem mr_4 : xe_mR 4 = some .int := rfl
theorem mr_5 : xe_mR 5 = some .int := rfl
theorem mr_6 : xe_mR 6 = some .int := rfl
theorem mr_7 : xe_mR 7 = some .int := rfl
theorem mr_8 : xe_mR 8 = none := rfl
theorem mr_9 : xe_mR 9 = some .int := rfl
theorem mr_10 : xe_mR 10 = some .int := rfl
theorem mr_11 : xe_mR 11 = some .boolean := rfl
theorem mr_12 : xe_mR 12 = some .boolean := rfl
theorem mr_13 : xe_mR 13 = some .int := rfl
theorem mr_14 : xe_mR 14 = some .int := rfl
theorem mr_15 : xe_mR 15 = none := rfl
theorem mr_16 : xe_mR 16 = some .int := rfl
theorem mr_17 : xe_mR 17 = some .int := rfl
theorem mr_18 : xe_mR 18 = some .int := rfl
theorem mr_19 : xe_mR 19 = some .int := rfl
theorem mr_20 : xe_mR 20 = some .int := rfl
theorem mr_21 : xe_mR 21 = some .int := rfl
theorem mr_22 : xe_mR 22 = some .int := rfl
theorem mr_23 : xe_mR 23 = some .int := rfl
theorem mr_24 : xe_mR 24 = some .int := rfl
theorem mr_25 : xe_mR 25 = some .boolean := rfl
theorem mr_26 : xe_mR 26 = some .int := rfl
theorem mr_27 : xe_mR 27 = some .int := rfl
theorem mr_28 : xe_mR 28 = some .int := rfl
theorem mr_29 : xe_mR 29 = some .int := rfl
theorem mr_30 : xe_mR 30 = some .int := rfl
theorem mr_31 : xe_mR 31 = some .int := rfl
theorem mr_32 : xe_mR 32 = some .boolean := rfl
theorem mr_33 : xe_mR 33 = some .int := rfl
theorem mr_34 : xe_mR 34 = some .int := rfl
theorem mr_35 : xe_mR 35 = some .int := rfl
theorem mr_36 : xe_mR 36 = none := rfl
theorem mr_37 : xe_mR 37 = none := rfl
theorem mr_38 : xe_mR 38 = none := rfl
theorem mr_39 : xe_mR 39 = some .boolean := rfl
theorem mr_40 : xe_mR 40 = some .int := rfl
theorem mr_41 : xe_mR 41 = none := rfl
theorem mr_42 : xe_mR 42 = some .long := rfl
theorem mr_43 : xe_mR 43 = some .int := rfl
theorem mr_44 : xe_mR 44 = none := rfl
theorem mr_45 : xe_mR 45 = none := rfl
theorem mr_46 : xe_mR 46 = some .long := rfl
theorem mr_47 : xe_mR 47 = some .int := rfl
theorem mr_48 : xe_mR 48 = some .int := rfl
theorem mr_49 : xe_mR 49 = some .int := rfl
theorem mr_50 : xe_mR 50 = some .int := rfl
theorem mr_51 : xe_mR 51 = some .int := rfl
theorem mr_52 : xe_mR 52 = some .int := rfl
theorem mr_53 : xe_mR 53 = some .int := rfl
theorem mr_54 : xe_mR 54 = some .boolean := rfl
theorem mr_55 : xe_mR 55 = some .int := rfl
theorem mr_56 : xe_mR 56 = some .int := rfl
theorem mr_57 : xe_mR 57 = some .int := rfl
theorem mr_58 : xe_mR 58 = some .int := rfl
theorem mr_59 : xe_mR 59 = some .int := rfl
theorem mr_60 : xe_mR 60 = some .boolean := rfl
theorem mr_61 : xe_mR 61 = some .boolean := rfl
theorem mr_62 : xe_mR 62 = some .int := rfl
theorem mr_63 : xe_mR 63 = some .int := rfl
theorem mr_64 : xe_mR 64 = some .int := rfl
theorem mr_65 : xe_mR 65 = some .int := rfl
theorem mr_66 : xe_mR 66 = some .int := rfl
theorem mr_67 : xe_mR 67 = some .int := rfl
theorem mr_68 : xe_mR 68 = some .boolean := rfl
theorem mr_69 : xe_mR 69 = some .int := rfl
theorem mr_70 : xe_mR 70 = none := rfl
theorem mr_71 : xe_mR 71 = some .int := rfl
theorem mr_72 : xe_mR 72 = some .int := rfl
theorem mr_73 : xe_mR 73 = some .int := rfl
theorem mr_74 : xe_mR 74 = some .int := rfl
theorem mr_75 : xe_mR 75 = some .int := rfl
theorem mr_76 : xe_mR 76 = some .int := rfl
theorem mr_77 : xe_mR 77 = none := rfl
theorem mr_78 : xe_mR 78 = none := rfl
theorem mr_79 : xe_mR 79 = none := rfl
theorem mr_80 : xe_mR 80 = none := rfl
theorem mr_81 : xe_mR 81 = none := rfl
theorem mr_82 : xe_mR 82 = none := rfl
theorem mr_83 : xe_mR 83 = none := rfl
theorem mr_84 : xe_mR 84 = none := rfl
theorem mr_85 : xe_mR 85 = none := rfl
theorem mr_86 : xe_mR 86 = none := rfl
theorem mr_87 : xe_mR 87 = none := rfl
theorem mr_88 : xe_mR 88 = none := rfl
theorem mr_89 : xe_mR 89 = some .int := rfl
theorem mr_90 : xe_mR 90 = some .boolean := rfl
theorem mr_91 : xe_mR 91 = some .int := rfl
theorem mr_92 : xe_mR 92 = none := rfl
theorem mr_93 : xe_mR 93 = some .int := rfl
theorem mr_94 : xe_mR 94 = some .int := rfl
theorem mr_95 : xe_mR 95 = some .int := rfl
theorem mr_96 : xe_mR 96 = some .int := rfl
theorem mr_97 : xe_mR 97 = some .int := rfl
theorem mr_98 : xe_mR 98 = some (.object "DampHouse$Series") := rfl
theorem mr_99 : xe_mR 99 = some .int := rfl
theorem mr_100 : xe_mR 100 = some .int := rfl
theorem mr_101 : xe_mR 101 = some .int := rfl
theorem mr_102 : xe_mR 102 = some .int := rfl
theorem mr_103 : xe_mR 103 = some .int := rfl
theorem mr_104 : xe_mR 104 = some .int := rfl
theorem mr_105 : xe_mR 105 = some .boolean := rfl
theorem mr_106 : xe_mR 106 = some .boolean := rfl
theorem mr_107 : xe_mR 107 = some .int := rfl
theorem mr_108 : xe_mR 108 = some .int := rfl
theorem mr_109 : xe_mR 109 = some .boolean := rfl
theorem mr_110 : xe_mR 110 = some .int := rfl
theorem mr_111 : xe_mR 111 = some .int := rfl
theorem mr_112 : xe_mR 112 = some .int := rfl
theorem mr_113 : xe_mR 113 = some .int := rfl
theorem mr_114 : xe_mR 114 = some .int := rfl
theorem mr_115 : xe_mR 115 = some .boolean := rfl
theorem mr_116 : xe_mR 116 = some .int := rfl
theorem mr_117 : xe_mR 117 = some .int := rfl
theorem mr_118 : xe_mR 118 = some .boolean := rfl
theorem mr_119 : xe_mR 119 = some .boolean := rfl
theorem mr_120 : xe_mR 120 = some .int := rfl
theorem mr_121 : xe_mR 121 = some .int := rfl
theorem mr_122 : xe_mR 122 = some .int := rfl
theorem mr_123 : xe_mR 123 = none := rfl
theorem mr_124 : xe_mR 124 = none := rfl
theorem mr_125 : xe_mR 125 = none := rfl
theorem mr_126 : xe_mR 126 = none := rfl
theorem mr_127 : xe_mR 127 = some .boolean := rfl
theorem mr_128 : xe_mR 128 = none := rfl
theorem mr_129 : xe_mR 129 = none := rfl
theorem mr_130 : xe_mR 130 = some .int := rfl
theorem mr_131 : xe_mR 131 = none := rfl
theorem mr_132 : xe_mR 132 = none := rfl
theorem mr_133 : xe_mR 133 = none := rfl
theorem mr_134 : xe_mR 134 = some .int := rfl
theorem mr_135 : xe_mR 135 = none := rfl
theorem mr_136 : xe_mR 136 = none := rfl
theorem mr_137 : xe_mR 137 = none := rfl
theorem mr_138 : xe_mR 138 = some .int := rfl
theorem mr_139 : xe_mR 139 = some .boolean := rfl
theorem mr_140 : xe_mR 140 = some .int := rfl
theorem mr_141 : xe_mR 141 = some .int := rfl
theorem mr_142 : xe_mR 142 = some .int := rfl
theorem mr_143 : xe_mR 143 = some .int := rfl
theorem mr_144 : xe_mR 144 = none := rfl
theorem mr_145 : xe_mR 145 = some .int := rfl
theorem mr_146 : xe_mR 146 = some .int := rfl
theorem mr_147 : xe_mR 147 = some .long := rfl
theorem mr_148 : xe_mR 148 = some .int := rfl
theorem mr_149 : xe_mR 149 = some .int := rfl
theorem mr_150 : xe_mR 150 = some .int := rfl
theorem mr_151 : xe_mR 151 = some .int := rfl
theorem mr_152 : xe_mR 152 = some .int := rfl
theorem mr_153 : xe_mR 153 = some .long := rfl
theorem mr_154 : xe_mR 154 = some .long := rfl
theorem mr_155 : xe_mR 155 = some .long := rfl
theorem mr_156 : xe_mR 156 = some .int := rfl
theorem mr_157 : xe_mR 157 = some .int := rfl
theorem mr_158 : xe_mR 158 = some .int := rfl
theorem mr_159 : xe_mR 159 = some .int := rfl
theorem mr_160 : xe_mR 160 = some .int := rfl
theorem mr_161 : xe_mR 161 = some .int := rfl
theorem mr_162 : xe_mR 162 = some .int := rfl
theorem mr_163 : xe_mR 163 = some .int := rfl
theorem mr_164 : xe_mR 164 = some .int := rfl
theorem mr_165 : xe_mR 165 = some .boolean := rfl
theorem mr_166 : xe_mR 166 = some .int := rfl
theorem mr_167 : xe_mR 167 = some .int := rfl
theorem mr_168 : xe_mR 168 = some .int := rfl
theorem mr_169 : xe_mR 169 = some .int := rfl
theorem mr_170 : xe_mR 170 = some .int := rfl
theorem mr_171 : xe_mR 171 = some .int := rfl
theorem mr_172 : xe_mR 172 = some .boolean := rfl
theorem mr_173 : xe_mR 173 = some .int := rfl
theorem mr_174 : xe_mR 174 = some .int := rfl
theorem mr_175 : xe_mR 175 = some .int := rfl
theorem mr_176 : xe_mR 176 = some .int := rfl
theorem mr_177 : xe_mR 177 = some .int := rfl
theorem mr_178 : xe_mR 178 = some .int := rfl
theorem mr_179 : xe_mR 179 = some .int := rfl
theorem mr_180 : xe_mR 180 = some .int := rfl
theorem mr_181 : xe_mR 181 = some .int := rfl
theorem mr_182 : xe_mR 182 = none := rfl
theorem mr_183 : xe_mR 183 = some .int := rfl
theorem mr_184 : xe_mR 184 = some .boolean := rfl
theorem mr_185 : xe_mR 185 = some .int := rfl
theorem mr_186 : xe_mR 186 = some .int := rfl
theorem mr_187 : xe_mR 187 = some .int := rfl
theorem mr_188 : xe_mR 188 = some .int := rfl
theorem mr_189 : xe_mR 189 = some .int := rfl
theorem mr_190 : xe_mR 190 = some .boolean := rfl
theorem mr_191 : xe_mR 191 = some .int := rfl
theorem mr_192 : xe_mR 192 = some .int := rfl
theorem mr_193 : xe_mR 193 = some .int := rfl
theorem mr_194 : xe_mR 194 = some .long := rfl
theorem mr_195 : xe_mR 195 = some .int := rfl
theorem mr_196 : xe_mR 196 = some .boolean := rfl
theorem kc_0_0 : xe_code 0 0 = some (.return_, []) := by decide +kernel
theorem kc_1_0 : xe_code 1 0 = some (.iconst 0, []) := by decide +kernel
theorem kc_1_1 : xe_code 1 1 = some (.istore_n 2, []) := by decide +kernel
theorem kc_1_2 : xe_code 1 2 = some (.aload_n 0, []) := by decide +kernel
theorem kc_1_3 : xe_code 1 3 = some (.arraylength, []) := by decide +kernel
theorem kc_1_4 : xe_code 1 4 = some (.istore_n 3, []) := by decide +kernel
theorem kc_1_5 : xe_code 1 5 = some (.iload_n 2, []) := by decide +kernel
theorem kc_1_6 : xe_code 1 6 = some (.iload_n 3, []) := by decide +kernel
theorem kc_1_7 : xe_code 1 7 = some (.if_icmp .ge 13, [20]) := by decide +kernel
theorem kc_1_10 : xe_code 1 10 = some (.aload_n 0, []) := by decide +kernel
theorem kc_1_11 : xe_code 1 11 = some (.iload_n 2, []) := by decide +kernel
theorem kc_1_12 : xe_code 1 12 = some (.iload_n 1, []) := by decide +kernel
theorem kc_1_13 : xe_code 1 13 = some (.iastore, []) := by decide +kernel
theorem kc_1_14 : xe_code 1 14 = some (.iinc 2 1, []) := by decide +kernel
theorem kc_1_17 : xe_code 1 17 = some (.goto (-12), [5]) := by decide +kernel
theorem kc_1_20 : xe_code 1 20 = some (.return_, []) := by decide +kernel
theorem kc_2_0 : xe_code 2 0 = some (.iload_n 0, []) := by decide +kernel
theorem kc_2_1 : xe_code 2 1 = some (.ifCond .ge 8, [9]) := by decide +kernel
theorem kc_2_4 : xe_code 2 4 = some (.iload_n 0, []) := by decide +kernel
theorem kc_2_5 : xe_code 2 5 = some (.ineg, []) := by decide +kernel
theorem kc_2_6 : xe_code 2 6 = some (.goto 4, [10]) := by decide +kernel
theorem kc_2_9 : xe_code 2 9 = some (.iload_n 0, []) := by decide +kernel
theorem kc_2_10 : xe_code 2 10 = some (.ireturn, []) := by decide +kernel
theorem kc_3_0 : xe_code 3 0 = some (.iload_n 0, []) := by decide +kernel
theorem kc_3_1 : xe_code 3 1 = some (.iload_n 1, []) := by decide +kernel
theorem kc_3_2 : xe_code 3 2 = some (.irem, []) := by decide +kernel
theorem kc_3_3 : xe_code 3 3 = some (.istore_n 2, []) := by decide +kernel
theorem kc_3_4 : xe_code 3 4 = some (.iload_n 0, []) := by decide +kernel
theorem kc_3_5 : xe_code 3 5 = some (.iload_n 1, []) := by decide +kernel
theorem kc_3_6 : xe_code 3 6 = some (.ixor, []) := by decide +kernel
theorem kc_3_7 : xe_code 3 7 = some (.ifCond .ge 11, [18]) := by decide +kernel
theorem kc_3_10 : xe_code 3 10 = some (.iload_n 2, []) := by decide +kernel
theorem kc_3_11 : xe_code 3 11 = some (.ifCond .eq 7, [18]) := by decide +kernel
theorem kc_3_14 : xe_code 3 14 = some (.iload_n 2, []) := by decide +kernel
theorem kc_3_15 : xe_code 3 15 = some (.iload_n 1, []) := by decide +kernel
theorem kc_3_16 : xe_code 3 16 = some (.iadd, []) := by decide +kernel
theorem kc_3_17 : xe_code 3 17 = some (.ireturn, []) := by decide +kernel
theorem kc_3_18 : xe_code 3 18 = some (.iload_n 2, []) := by decide +kernel
theorem kc_3_19 : xe_code 3 19 = some (.ireturn, []) := by decide +kernel
theorem kc_4_0 : xe_code 4 0 = some (.iload_n 0, []) := by decide +kernel
theorem kc_4_1 : xe_code 4 1 = some (.iload_n 0, []) := by decide +kernel
theorem kc_4_2 : xe_code 4 2 = some (.iconst 1, []) := by decide +kernel
theorem kc_4_3 : xe_code 4 3 = some (.iushr, []) := by decide +kernel
theorem kc_4_4 : xe_code 4 4 = some (.ldc_w 265, [1431655765, 664]) := by decide +kernel
theorem kc_4_7 : xe_code 4 7 = some (.iand, []) := by decide +kernel
theorem kc_4_8 : xe_code 4 8 = some (.isub, []) := by decide +kernel
theorem kc_4_9 : xe_code 4 9 = some (.istore_n 0, []) := by decide +kernel
theorem kc_4_10 : xe_code 4 10 = some (.iload_n 0, []) := by decide +kernel
theorem kc_4_11 : xe_code 4 11 = some (.ldc_w 266, [858993459, 665]) := by decide +kernel
theorem kc_4_14 : xe_code 4 14 = some (.iand, []) := by decide +kernel
theorem kc_4_15 : xe_code 4 15 = some (.iload_n 0, []) := by decide +kernel
theorem kc_4_16 : xe_code 4 16 = some (.iconst 2, []) := by decide +kernel
theorem kc_4_17 : xe_code 4 17 = some (.iushr, []) := by decide +kernel
theorem kc_4_18 : xe_code 4 18 = some (.ldc_w 266, [858993459, 665]) := by decide +kernel
theorem kc_4_21 : xe_code 4 21 = some (.iand, []) := by decide +kernel
theorem kc_4_22 : xe_code 4 22 = some (.iadd, []) := by decide +kernel
theorem kc_4_23 : xe_code 4 23 = some (.istore_n 0, []) := by decide +kernel
theorem kc_4_24 : xe_code 4 24 = some (.iload_n 0, []) := by decide +kernel
theorem kc_4_25 : xe_code 4 25 = some (.iload_n 0, []) := by decide +kernel
theorem kc_4_26 : xe_code 4 26 = some (.iconst 4, []) := by decide +kernel
theorem kc_4_27 : xe_code 4 27 = some (.iushr, []) := by decide +kernel
theorem kc_4_28 : xe_code 4 28 = some (.iadd, []) := by decide +kernel
theorem kc_4_29 : xe_code 4 29 = some (.ldc_w 267, [252645135, 666]) := by decide +kernel
theorem kc_4_32 : xe_code 4 32 = some (.iand, []) := by decide +kernel
theorem kc_4_33 : xe_code 4 33 = some (.istore_n 0, []) := by decide +kernel
theorem kc_4_34 : xe_code 4 34 = some (.iload_n 0, []) := by decide +kernel
theorem kc_4_35 : xe_code 4 35 = some (.iload_n 0, []) := by decide +kernel
theorem kc_4_36 : xe_code 4 36 = some (.bipush 8, []) := by decide +kernel
theorem kc_4_38 : xe_code 4 38 = some (.iushr, []) := by decide +kernel
theorem kc_4_39 : xe_code 4 39 = some (.iadd, []) := by decide +kernel
theorem kc_4_40 : xe_code 4 40 = some (.istore_n 0, []) := by decide +kernel
theorem kc_4_41 : xe_code 4 41 = some (.iload_n 0, []) := by decide +kernel
theorem kc_4_42 : xe_code 4 42 = some (.iload_n 0, []) := by decide +kernel
theorem kc_4_43 : xe_code 4 43 = some (.bipush 16, []) := by decide +kernel
theorem kc_4_45 : xe_code 4 45 = some (.iushr, []) := by decide +kernel
theorem kc_4_46 : xe_code 4 46 = some (.iadd, []) := by decide +kernel
theorem kc_4_47 : xe_code 4 47 = some (.istore_n 0, []) := by decide +kernel
theorem kc_4_48 : xe_code 4 48 = some (.iload_n 0, []) := by decide +kernel
theorem kc_4_49 : xe_code 4 49 = some (.bipush 63, []) := by decide +kernel
theorem kc_4_51 : xe_code 4 51 = some (.iand, []) := by decide +kernel
theorem kc_4_52 : xe_code 4 52 = some (.ireturn, []) := by decide +kernel
theorem kc_5_0 : xe_code 5 0 = some (.lload_n 0, []) := by decide +kernel
theorem kc_5_1 : xe_code 5 1 = some (.lload_n 0, []) := by decide +kernel
theorem kc_5_2 : xe_code 5 2 = some (.iconst 1, []) := by decide +kernel
theorem kc_5_3 : xe_code 5 3 = some (.lushr, []) := by decide +kernel
theorem kc_5_4 : xe_code 5 4 = some (.ldc2_w 314, [6148914691236517205, 699]) := by decide +kernel
theorem kc_5_7 : xe_code 5 7 = some (.land, []) := by decide +kernel
theorem kc_5_8 : xe_code 5 8 = some (.lsub, []) := by decide +kernel
theorem kc_5_9 : xe_code 5 9 = some (.lstore_n 0, []) := by decide +kernel
theorem kc_5_10 : xe_code 5 10 = some (.lload_n 0, []) := by decide +kernel
theorem kc_5_11 : xe_code 5 11 = some (.ldc2_w 316, [3689348814741910323, 700]) := by decide +kernel
theorem kc_5_14 : xe_code 5 14 = some (.land, []) := by decide +kernel
theorem kc_5_15 : xe_code 5 15 = some (.lload_n 0, []) := by decide +kernel
theorem kc_5_16 : xe_code 5 16 = some (.iconst 2, []) := by decide +kernel
theorem kc_5_17 : xe_code 5 17 = some (.lushr, []) := by decide +kernel
theorem kc_5_18 : xe_code 5 18 = some (.ldc2_w 316, [3689348814741910323, 700]) := by decide +kernel
theorem kc_5_21 : xe_code 5 21 = some (.land, []) := by decide +kernel
theorem kc_5_22 : xe_code 5 22 = some (.ladd, []) := by decide +kernel
theorem kc_5_23 : xe_code 5 23 = some (.lstore_n 0, []) := by decide +kernel
theorem kc_5_24 : xe_code 5 24 = some (.lload_n 0, []) := by decide +kernel
theorem kc_5_25 : xe_code 5 25 = some (.lload_n 0, []) := by decide +kernel
theorem kc_5_26 : xe_code 5 26 = some (.iconst 4, []) := by decide +kernel
theorem kc_5_27 : xe_code 5 27 = some (.lushr, []) := by decide +kernel
theorem kc_5_28 : xe_code 5 28 = some (.ladd, []) := by decide +kernel
theorem kc_5_29 : xe_code 5 29 = some (.ldc2_w 318, [1085102592571150095, 701]) := by decide +kernel
theorem kc_5_32 : xe_code 5 32 = some (.land, []) := by decide +kernel
theorem kc_5_33 : xe_code 5 33 = some (.lstore_n 0, []) := by decide +kernel
theorem kc_5_34 : xe_code 5 34 = some (.lload_n 0, []) := by decide +kernel
theorem kc_5_35 : xe_code 5 35 = some (.lload_n 0, []) := by decide +kernel
theorem kc_5_36 : xe_code 5 36 = some (.bipush 8, []) := by decide +kernel
theorem kc_5_38 : xe_code 5 38 = some (.lushr, []) := by decide +kernel
theorem kc_5_39 : xe_code 5 39 = some (.ladd, []) := by decide +kernel
theorem kc_5_40 : xe_code 5 40 = some (.lstore_n 0, []) := by decide +kernel
theorem kc_5_41 : xe_code 5 41 = some (.lload_n 0, []) := by decide +kernel
theorem kc_5_42 : xe_code 5 42 = some (.lload_n 0, []) := by decide +kernel
theorem kc_5_43 : xe_code 5 43 = some (.bipush 16, []) := by decide +kernel
theorem kc_5_45 : xe_code 5 45 = some (.lushr, []) := by decide +kernel
theorem kc_5_46 : xe_code 5 46 = some (.ladd, []) := by decide +kernel
theorem kc_5_47 : xe_code 5 47 = some (.lstore_n 0, []) := by decide +kernel
theorem kc_5_48 : xe_code 5 48 = some (.lload_n 0, []) := by decide +kernel
theorem kc_5_49 : xe_code 5 49 = some (.lload_n 0, []) := by decide +kernel
theorem kc_5_50 : xe_code 5 50 = some (.bipush 32, []) := by decide +kernel
theorem kc_5_52 : xe_code 5 52 = some (.lushr, []) := by decide +kernel
theorem kc_5_53 : xe_code 5 53 = some (.ladd, []) := by decide +kernel
theorem kc_5_54 : xe_code 5 54 = some (.lstore_n 0, []) := by decide +kernel
theorem kc_5_55 : xe_code 5 55 = some (.lload_n 0, []) := by decide +kernel
theorem kc_5_56 : xe_code 5 56 = some (.l2i, []) := by decide +kernel
theorem kc_5_57 : xe_code 5 57 = some (.bipush 127, []) := by decide +kernel
theorem kc_5_59 : xe_code 5 59 = some (.iand, []) := by decide +kernel
theorem kc_5_60 : xe_code 5 60 = some (.ireturn, []) := by decide +kernel
theorem kc_6_0 : xe_code 6 0 = some (.iload_n 0, []) := by decide +kernel
theorem kc_6_1 : xe_code 6 1 = some (.iload_n 1, []) := by decide +kernel
theorem kc_6_2 : xe_code 6 2 = some (.if_icmp .lt 7, [9]) := by decide +kernel
theorem kc_6_5 : xe_code 6 5 = some (.iload_n 0, []) := by decide +kernel
theorem kc_6_6 : xe_code 6 6 = some (.goto 4, [10]) := by decide +kernel
theorem kc_6_9 : xe_code 6 9 = some (.iload_n 1, []) := by decide +kernel
theorem kc_6_10 : xe_code 6 10 = some (.ireturn, []) := by decide +kernel
theorem kc_7_0 : xe_code 7 0 = some (.iload_n 0, []) := by decide +kernel
theorem kc_7_1 : xe_code 7 1 = some (.iload_n 1, []) := by decide +kernel
theorem kc_7_2 : xe_code 7 2 = some (.if_icmp .gt 7, [9]) := by decide +kernel
theorem kc_7_5 : xe_code 7 5 = some (.iload_n 0, []) := by decide +kernel
theorem kc_7_6 : xe_code 7 6 = some (.goto 4, [10]) := by decide +kernel
theorem kc_7_9 : xe_code 7 9 = some (.iload_n 1, []) := by decide +kernel
theorem kc_7_10 : xe_code 7 10 = some (.ireturn, []) := by decide +kernel
theorem kc_8_0 : xe_code 8 0 = some (.aload_n 0, []) := by decide +kernel
theorem kc_8_1 : xe_code 8 1 = some (.invokespecial 1, [0, 0, 946, 0]) := by decide +kernel
theorem kc_8_4 : xe_code 8 4 = some (.aload_n 0, []) := by decide +kernel
theorem kc_8_5 : xe_code 8 5 = some (.bipush 6, []) := by decide +kernel
theorem kc_8_7 : xe_code 8 7 = some (.newarray .int, [0, 109]) := by decide +kernel
theorem kc_8_9 : xe_code 8 9 = some (.dup, []) := by decide +kernel
theorem kc_8_10 : xe_code 8 10 = some (.iconst 0, []) := by decide +kernel
theorem kc_8_11 : xe_code 8 11 = some (.bipush 40, []) := by decide +kernel
theorem kc_8_13 : xe_code 8 13 = some (.iastore, []) := by decide +kernel
theorem kc_8_14 : xe_code 8 14 = some (.dup, []) := by decide +kernel
theorem kc_8_15 : xe_code 8 15 = some (.iconst 1, []) := by decide +kernel
theorem kc_8_16 : xe_code 8 16 = some (.bipush 40, []) := by decide +kernel
theorem kc_8_18 : xe_code 8 18 = some (.iastore, []) := by decide +kernel
theorem kc_8_19 : xe_code 8 19 = some (.dup, []) := by decide +kernel
theorem kc_8_20 : xe_code 8 20 = some (.iconst 2, []) := by decide +kernel
theorem kc_8_21 : xe_code 8 21 = some (.bipush 40, []) := by decide +kernel
theorem kc_8_23 : xe_code 8 23 = some (.iastore, []) := by decide +kernel
theorem kc_8_24 : xe_code 8 24 = some (.dup, []) := by decide +kernel
theorem kc_8_25 : xe_code 8 25 = some (.iconst 3, []) := by decide +kernel
theorem kc_8_26 : xe_code 8 26 = some (.bipush 40, []) := by decide +kernel
theorem kc_8_28 : xe_code 8 28 = some (.iastore, []) := by decide +kernel
theorem kc_8_29 : xe_code 8 29 = some (.dup, []) := by decide +kernel
theorem kc_8_30 : xe_code 8 30 = some (.iconst 4, []) := by decide +kernel
theorem kc_8_31 : xe_code 8 31 = some (.bipush 40, []) := by decide +kernel
theorem kc_8_33 : xe_code 8 33 = some (.iastore, []) := by decide +kernel
theorem kc_8_34 : xe_code 8 34 = some (.dup, []) := by decide +kernel
theorem kc_8_35 : xe_code 8 35 = some (.iconst 5, []) := by decide +kernel
theorem kc_8_36 : xe_code 8 36 = some (.bipush 40, []) := by decide +kernel
theorem kc_8_38 : xe_code 8 38 = some (.iastore, []) := by decide +kernel
theorem kc_8_39 : xe_code 8 39 = some (.putfield 7, [12, 2, 949]) := by decide +kernel
theorem kc_8_42 : xe_code 8 42 = some (.aload_n 0, []) := by decide +kernel
theorem kc_8_43 : xe_code 8 43 = some (.bipush 6, []) := by decide +kernel
theorem kc_8_45 : xe_code 8 45 = some (.newarray .int, [0, 109]) := by decide +kernel
theorem kc_8_47 : xe_code 8 47 = some (.dup, []) := by decide +kernel
theorem kc_8_48 : xe_code 8 48 = some (.iconst 0, []) := by decide +kernel
theorem kc_8_49 : xe_code 8 49 = some (.bipush 18, []) := by decide +kernel
theorem kc_8_51 : xe_code 8 51 = some (.iastore, []) := by decide +kernel
theorem kc_8_52 : xe_code 8 52 = some (.dup, []) := by decide +kernel
theorem kc_8_53 : xe_code 8 53 = some (.iconst 1, []) := by decide +kernel
theorem kc_8_54 : xe_code 8 54 = some (.bipush 18, []) := by decide +kernel
theorem kc_8_56 : xe_code 8 56 = some (.iastore, []) := by decide +kernel
theorem kc_8_57 : xe_code 8 57 = some (.dup, []) := by decide +kernel
theorem kc_8_58 : xe_code 8 58 = some (.iconst 2, []) := by decide +kernel
theorem kc_8_59 : xe_code 8 59 = some (.bipush 18, []) := by decide +kernel
theorem kc_8_61 : xe_code 8 61 = some (.iastore, []) := by decide +kernel
theorem kc_8_62 : xe_code 8 62 = some (.dup, []) := by decide +kernel
theorem kc_8_63 : xe_code 8 63 = some (.iconst 3, []) := by decide +kernel
theorem kc_8_64 : xe_code 8 64 = some (.bipush 18, []) := by decide +kernel
theorem kc_8_66 : xe_code 8 66 = some (.iastore, []) := by decide +kernel
theorem kc_8_67 : xe_code 8 67 = some (.dup, []) := by decide +kernel
theorem kc_8_68 : xe_code 8 68 = some (.iconst 4, []) := by decide +kernel
theorem kc_8_69 : xe_code 8 69 = some (.bipush 18, []) := by decide +kernel
theorem kc_8_71 : xe_code 8 71 = some (.iastore, []) := by decide +kernel
theorem kc_8_72 : xe_code 8 72 = some (.dup, []) := by decide +kernel
theorem kc_8_73 : xe_code 8 73 = some (.iconst 5, []) := by decide +kernel
theorem kc_8_74 : xe_code 8 74 = some (.bipush 18, []) := by decide +kernel
theorem kc_8_76 : xe_code 8 76 = some (.iastore, []) := by decide +kernel
theorem kc_8_77 : xe_code 8 77 = some (.putfield 13, [12, 3, 950]) := by decide +kernel
theorem kc_8_80 : xe_code 8 80 = some (.aload_n 0, []) := by decide +kernel
theorem kc_8_81 : xe_code 8 81 = some (.bipush 6, []) := by decide +kernel
theorem kc_8_83 : xe_code 8 83 = some (.newarray .int, [0, 109]) := by decide +kernel
theorem kc_8_85 : xe_code 8 85 = some (.dup, []) := by decide +kernel
theorem kc_8_86 : xe_code 8 86 = some (.iconst 0, []) := by decide +kernel
theorem kc_8_87 : xe_code 8 87 = some (.bipush 10, []) := by decide +kernel
theorem kc_8_89 : xe_code 8 89 = some (.iastore, []) := by decide +kernel
theorem kc_8_90 : xe_code 8 90 = some (.dup, []) := by decide +kernel
theorem kc_8_91 : xe_code 8 91 = some (.iconst 1, []) := by decide +kernel
theorem kc_8_92 : xe_code 8 92 = some (.bipush 10, []) := by decide +kernel
theorem kc_8_94 : xe_code 8 94 = some (.iastore, []) := by decide +kernel
theorem kc_8_95 : xe_code 8 95 = some (.dup, []) := by decide +kernel
theorem kc_8_96 : xe_code 8 96 = some (.iconst 2, []) := by decide +kernel
theorem kc_8_97 : xe_code 8 97 = some (.bipush 10, []) := by decide +kernel
theorem kc_8_99 : xe_code 8 99 = some (.iastore, []) := by decide +kernel
theorem kc_8_100 : xe_code 8 100 = some (.dup, []) := by decide +kernel
theorem kc_8_101 : xe_code 8 101 = some (.iconst 3, []) := by decide +kernel
theorem kc_8_102 : xe_code 8 102 = some (.bipush 10, []) := by decide +kernel
theorem kc_8_104 : xe_code 8 104 = some (.iastore, []) := by decide +kernel
theorem kc_8_105 : xe_code 8 105 = some (.dup, []) := by decide +kernel
theorem kc_8_106 : xe_code 8 106 = some (.iconst 4, []) := by decide +kernel
theorem kc_8_107 : xe_code 8 107 = some (.bipush 10, []) := by decide +kernel
theorem kc_8_109 : xe_code 8 109 = some (.iastore, []) := by decide +kernel
theorem kc_8_110 : xe_code 8 110 = some (.dup, []) := by decide +kernel
theorem kc_8_111 : xe_code 8 111 = some (.iconst 5, []) := by decide +kernel
theorem kc_8_112 : xe_code 8 112 = some (.bipush 10, []) := by decide +kernel
theorem kc_8_114 : xe_code 8 114 = some (.iastore, []) := by decide +kernel
theorem kc_8_115 : xe_code 8 115 = some (.putfield 16, [12, 4, 951]) := by decide +kernel
theorem kc_8_118 : xe_code 8 118 = some (.aload_n 0, []) := by decide +kernel
theorem kc_8_119 : xe_code 8 119 = some (.bipush 6, []) := by decide +kernel
theorem kc_8_121 : xe_code 8 121 = some (.newarray .int, [0, 109]) := by decide +kernel
theorem kc_8_123 : xe_code 8 123 = some (.putfield 19, [12, 5, 952]) := by decide +kernel
theorem kc_8_126 : xe_code 8 126 = some (.aload_n 0, []) := by decide +kernel
theorem kc_8_127 : xe_code 8 127 = some (.bipush 6, []) := by decide +kernel
theorem kc_8_129 : xe_code 8 129 = some (.newarray .int, [0, 109]) := by decide +kernel
theorem kc_8_131 : xe_code 8 131 = some (.putfield 22, [12, 6, 953]) := by decide +kernel
theorem kc_8_134 : xe_code 8 134 = some (.aload_n 0, []) := by decide +kernel
theorem kc_8_135 : xe_code 8 135 = some (.bipush 6, []) := by decide +kernel
theorem kc_8_137 : xe_code 8 137 = some (.newarray .int, [0, 109]) := by decide +kernel
theorem kc_8_139 : xe_code 8 139 = some (.putfield 25, [12, 7, 954]) := by decide +kernel
theorem kc_8_142 : xe_code 8 142 = some (.aload_n 0, []) := by decide +kernel
theorem kc_8_143 : xe_code 8 143 = some (.sipush 144, []) := by decide +kernel
theorem kc_8_146 : xe_code 8 146 = some (.newarray .int, [0, 109]) := by decide +kernel
theorem kc_8_148 : xe_code 8 148 = some (.putfield 28, [12, 8, 955]) := by decide +kernel
theorem kc_8_151 : xe_code 8 151 = some (.aload_n 0, []) := by decide +kernel
theorem kc_8_152 : xe_code 8 152 = some (.sipush 600, []) := by decide +kernel
theorem kc_8_155 : xe_code 8 155 = some (.newarray .int, [0, 109]) := by decide +kernel
theorem kc_8_157 : xe_code 8 157 = some (.putfield 31, [12, 9, 956]) := by decide +kernel
theorem kc_8_160 : xe_code 8 160 = some (.aload_n 0, []) := by decide +kernel
theorem kc_8_161 : xe_code 8 161 = some (.sipush 600, []) := by decide +kernel
theorem kc_8_164 : xe_code 8 164 = some (.newarray .int, [0, 109]) := by decide +kernel
theorem kc_8_166 : xe_code 8 166 = some (.putfield 34, [12, 10, 957]) := by decide +kernel
theorem kc_8_169 : xe_code 8 169 = some (.aload_n 0, []) := by decide +kernel
theorem kc_8_170 : xe_code 8 170 = some (.bipush 12, []) := by decide +kernel
theorem kc_8_172 : xe_code 8 172 = some (.newarray .int, [0, 109]) := by decide +kernel
theorem kc_8_174 : xe_code 8 174 = some (.putfield 37, [12, 11, 958]) := by decide +kernel
theorem kc_8_177 : xe_code 8 177 = some (.aload_n 0, []) := by decide +kernel
theorem kc_8_178 : xe_code 8 178 = some (.bipush 12, []) := by decide +kernel
theorem kc_8_180 : xe_code 8 180 = some (.newarray .int, [0, 109]) := by decide +kernel
theorem kc_8_182 : xe_code 8 182 = some (.putfield 40, [12, 12, 959]) := by decide +kernel
theorem kc_8_185 : xe_code 8 185 = some (.aload_n 0, []) := by decide +kernel
theorem kc_8_186 : xe_code 8 186 = some (.bipush 12, []) := by decide +kernel
theorem kc_8_188 : xe_code 8 188 = some (.newarray .boolean, [2, 1140]) := by decide +kernel
theorem kc_8_190 : xe_code 8 190 = some (.putfield 43, [12, 13, 960]) := by decide +kernel
theorem kc_8_193 : xe_code 8 193 = some (.aload_n 0, []) := by decide +kernel
theorem kc_8_194 : xe_code 8 194 = some (.bipush 12, []) := by decide +kernel
theorem kc_8_196 : xe_code 8 196 = some (.newarray .int, [0, 109]) := by decide +kernel
theorem kc_8_198 : xe_code 8 198 = some (.putfield 47, [12, 14, 961]) := by decide +kernel
theorem kc_8_201 : xe_code 8 201 = some (.aload_n 0, []) := by decide +kernel
theorem kc_8_202 : xe_code 8 202 = some (.bipush 12, []) := by decide +kernel
theorem kc_8_204 : xe_code 8 204 = some (.newarray .int, [0, 109]) := by decide +kernel
theorem kc_8_206 : xe_code 8 206 = some (.putfield 50, [12, 15, 962]) := by decide +kernel
theorem kc_8_209 : xe_code 8 209 = some (.aload_n 0, []) := by decide +kernel
theorem kc_8_210 : xe_code 8 210 = some (.iconst 4, []) := by decide +kernel
theorem kc_8_211 : xe_code 8 211 = some (.putfield 53, [12, 16, 963]) := by decide +kernel
theorem kc_8_214 : xe_code 8 214 = some (.aload_n 0, []) := by decide +kernel
theorem kc_8_215 : xe_code 8 215 = some (.sipush 7200, []) := by decide +kernel
theorem kc_8_218 : xe_code 8 218 = some (.newarray .int, [0, 109]) := by decide +kernel
theorem kc_8_220 : xe_code 8 220 = some (.putfield 57, [12, 17, 964]) := by decide +kernel
theorem kc_8_223 : xe_code 8 223 = some (.aload_n 0, []) := by decide +kernel
theorem kc_8_224 : xe_code 8 224 = some (.bipush 60, []) := by decide +kernel
theorem kc_8_226 : xe_code 8 226 = some (.newarray .int, [0, 109]) := by decide +kernel
theorem kc_8_228 : xe_code 8 228 = some (.putfield 60, [12, 19, 966]) := by decide +kernel
theorem kc_8_231 : xe_code 8 231 = some (.aload_n 0, []) := by decide +kernel
theorem kc_8_232 : xe_code 8 232 = some (.bipush 60, []) := by decide +kernel
theorem kc_8_234 : xe_code 8 234 = some (.newarray .int, [0, 109]) := by decide +kernel
theorem kc_8_236 : xe_code 8 236 = some (.putfield 63, [12, 20, 967]) := by decide +kernel
theorem kc_8_239 : xe_code 8 239 = some (.aload_n 0, []) := by decide +kernel
theorem kc_8_240 : xe_code 8 240 = some (.bipush 60, []) := by decide +kernel
theorem kc_8_242 : xe_code 8 242 = some (.newarray .int, [0, 109]) := by decide +kernel
theorem kc_8_244 : xe_code 8 244 = some (.putfield 66, [12, 21, 968]) := by decide +kernel
theorem kc_8_247 : xe_code 8 247 = some (.aload_n 0, []) := by decide +kernel
theorem kc_8_248 : xe_code 8 248 = some (.bipush 60, []) := by decide +kernel
theorem kc_8_250 : xe_code 8 250 = some (.newarray .int, [0, 109]) := by decide +kernel
theorem kc_8_252 : xe_code 8 252 = some (.putfield 69, [12, 22, 969]) := by decide +kernel
theorem kc_8_255 : xe_code 8 255 = some (.aload_n 0, []) := by decide +kernel
theorem kc_8_256 : xe_code 8 256 = some (.bipush 10, []) := by decide +kernel
theorem kc_8_258 : xe_code 8 258 = some (.newarray .int, [0, 109]) := by decide +kernel
theorem kc_8_260 : xe_code 8 260 = some (.putfield 72, [12, 24, 971]) := by decide +kernel
theorem kc_8_263 : xe_code 8 263 = some (.aload_n 0, []) := by decide +kernel
theorem kc_8_264 : xe_code 8 264 = some (.bipush 10, []) := by decide +kernel
theorem kc_8_266 : xe_code 8 266 = some (.newarray .int, [0, 109]) := by decide +kernel
theorem kc_8_268 : xe_code 8 268 = some (.putfield 75, [12, 25, 972]) := by decide +kernel
theorem kc_8_271 : xe_code 8 271 = some (.aload_n 0, []) := by decide +kernel
theorem kc_8_272 : xe_code 8 272 = some (.bipush 10, []) := by decide +kernel
theorem kc_8_274 : xe_code 8 274 = some (.newarray .int, [0, 109]) := by decide +kernel
theorem kc_8_276 : xe_code 8 276 = some (.putfield 78, [12, 26, 973]) := by decide +kernel
theorem kc_8_279 : xe_code 8 279 = some (.aload_n 0, []) := by decide +kernel
theorem kc_8_280 : xe_code 8 280 = some (.bipush 10, []) := by decide +kernel
theorem kc_8_282 : xe_code 8 282 = some (.newarray .int, [0, 109]) := by decide +kernel
theorem kc_8_284 : xe_code 8 284 = some (.putfield 81, [12, 27, 974]) := by decide +kernel
theorem kc_8_287 : xe_code 8 287 = some (.aload_n 0, []) := by decide +kernel
theorem kc_8_288 : xe_code 8 288 = some (.bipush 10, []) := by decide +kernel
theorem kc_8_290 : xe_code 8 290 = some (.newarray .boolean, [2, 1140]) := by decide +kernel
theorem kc_8_292 : xe_code 8 292 = some (.putfield 84, [12, 28, 975]) := by decide +kernel
theorem kc_8_295 : xe_code 8 295 = some (.aload_n 0, []) := by decide +kernel
theorem kc_8_296 : xe_code 8 296 = some (.bipush 7, []) := by decide +kernel
theorem kc_8_298 : xe_code 8 298 = some (.newarray .int, [0, 109]) := by decide +kernel
theorem kc_8_300 : xe_code 8 300 = some (.putfield 87, [12, 29, 976]) := by decide +kernel
theorem kc_8_303 : xe_code 8 303 = some (.aload_n 0, []) := by decide +kernel
theorem kc_8_304 : xe_code 8 304 = some (.bipush 6, []) := by decide +kernel
theorem kc_8_306 : xe_code 8 306 = some (.newarray .int, [0, 109]) := by decide +kernel
theorem kc_8_308 : xe_code 8 308 = some (.putfield 90, [12, 30, 977]) := by decide +kernel
theorem kc_8_311 : xe_code 8 311 = some (.aload_n 0, []) := by decide +kernel
theorem kc_8_312 : xe_code 8 312 = some (.bipush 12, []) := by decide +kernel
theorem kc_8_314 : xe_code 8 314 = some (.newarray .int, [0, 109]) := by decide +kernel
theorem kc_8_316 : xe_code 8 316 = some (.putfield 93, [12, 31, 978]) := by decide +kernel
theorem kc_8_319 : xe_code 8 319 = some (.aload_n 0, []) := by decide +kernel
theorem kc_8_320 : xe_code 8 320 = some (.bipush 20, []) := by decide +kernel
theorem kc_8_322 : xe_code 8 322 = some (.newarray .int, [0, 109]) := by decide +kernel
theorem kc_8_324 : xe_code 8 324 = some (.putfield 96, [12, 35, 982]) := by decide +kernel
theorem kc_8_327 : xe_code 8 327 = some (.aload_n 0, []) := by decide +kernel
theorem kc_8_328 : xe_code 8 328 = some (.bipush 20, []) := by decide +kernel
theorem kc_8_330 : xe_code 8 330 = some (.newarray .int, [0, 109]) := by decide +kernel
theorem kc_8_332 : xe_code 8 332 = some (.putfield 99, [12, 36, 983]) := by decide +kernel
theorem kc_8_335 : xe_code 8 335 = some (.aload_n 0, []) := by decide +kernel
theorem kc_8_336 : xe_code 8 336 = some (.bipush 20, []) := by decide +kernel
theorem kc_8_338 : xe_code 8 338 = some (.newarray .int, [0, 109]) := by decide +kernel
theorem kc_8_340 : xe_code 8 340 = some (.putfield 102, [12, 37, 984]) := by decide +kernel
theorem kc_8_343 : xe_code 8 343 = some (.aload_n 0, []) := by decide +kernel
theorem kc_8_344 : xe_code 8 344 = some (.bipush 20, []) := by decide +kernel
theorem kc_8_346 : xe_code 8 346 = some (.newarray .int, [0, 109]) := by decide +kernel
theorem kc_8_348 : xe_code 8 348 = some (.putfield 105, [12, 38, 985]) := by decide +kernel
theorem kc_8_351 : xe_code 8 351 = some (.aload_n 0, []) := by decide +kernel
theorem kc_8_352 : xe_code 8 352 = some (.bipush 20, []) := by decide +kernel
theorem kc_8_354 : xe_code 8 354 = some (.newarray .int, [0, 109]) := by decide +kernel
theorem kc_8_356 : xe_code 8 356 = some (.putfield 108, [12, 39, 986]) := by decide +kernel
theorem kc_8_359 : xe_code 8 359 = some (.aload_n 0, []) := by decide +kernel
theorem kc_8_360 : xe_code 8 360 = some (.bipush 20, []) := by decide +kernel
theorem kc_8_362 : xe_code 8 362 = some (.newarray .int, [0, 109]) := by decide +kernel
theorem kc_8_364 : xe_code 8 364 = some (.putfield 111, [12, 40, 987]) := by decide +kernel
theorem kc_8_367 : xe_code 8 367 = some (.aload_n 0, []) := by decide +kernel
theorem kc_8_368 : xe_code 8 368 = some (.bipush 64, []) := by decide +kernel
theorem kc_8_370 : xe_code 8 370 = some (.newarray .long, [1, 261]) := by decide +kernel
theorem kc_8_372 : xe_code 8 372 = some (.putfield 114, [12, 42, 989]) := by decide +kernel
theorem kc_8_375 : xe_code 8 375 = some (.aload_n 0, []) := by decide +kernel
theorem kc_8_376 : xe_code 8 376 = some (.sipush 600, []) := by decide +kernel
theorem kc_8_379 : xe_code 8 379 = some (.newarray .int, [0, 109]) := by decide +kernel
theorem kc_8_381 : xe_code 8 381 = some (.putfield 118, [12, 43, 990]) := by decide +kernel
theorem kc_8_384 : xe_code 8 384 = some (.aload_n 0, []) := by decide +kernel
theorem kc_8_385 : xe_code 8 385 = some (.sipush 600, []) := by decide +kernel
theorem kc_8_388 : xe_code 8 388 = some (.newarray .int, [0, 109]) := by decide +kernel
theorem kc_8_390 : xe_code 8 390 = some (.putfield 121, [12, 44, 991]) := by decide +kernel
theorem kc_8_393 : xe_code 8 393 = some (.aload_n 0, []) := by decide +kernel
theorem kc_8_394 : xe_code 8 394 = some (.bipush 8, []) := by decide +kernel
theorem kc_8_396 : xe_code 8 396 = some (.newarray .int, [0, 109]) := by decide +kernel
theorem kc_8_398 : xe_code 8 398 = some (.putfield 124, [12, 46, 993]) := by decide +kernel
theorem kc_8_401 : xe_code 8 401 = some (.aload_n 0, []) := by decide +kernel
theorem kc_8_402 : xe_code 8 402 = some (.bipush 8, []) := by decide +kernel
theorem kc_8_404 : xe_code 8 404 = some (.newarray .int, [0, 109]) := by decide +kernel
theorem kc_8_406 : xe_code 8 406 = some (.putfield 127, [12, 47, 994]) := by decide +kernel
theorem kc_8_409 : xe_code 8 409 = some (.aload_n 0, []) := by decide +kernel
theorem kc_8_410 : xe_code 8 410 = some (.bipush 8, []) := by decide +kernel
theorem kc_8_412 : xe_code 8 412 = some (.newarray .int, [0, 109]) := by decide +kernel
theorem kc_8_414 : xe_code 8 414 = some (.putfield 130, [12, 48, 995]) := by decide +kernel
theorem kc_8_417 : xe_code 8 417 = some (.aload_n 0, []) := by decide +kernel
theorem kc_8_418 : xe_code 8 418 = some (.sipush 6561, []) := by decide +kernel
theorem kc_8_421 : xe_code 8 421 = some (.newarray .int, [0, 109]) := by decide +kernel
theorem kc_8_423 : xe_code 8 423 = some (.putfield 133, [12, 49, 996]) := by decide +kernel
theorem kc_8_426 : xe_code 8 426 = some (.aload_n 0, []) := by decide +kernel
theorem kc_8_427 : xe_code 8 427 = some (.bipush 24, []) := by decide +kernel
theorem kc_8_429 : xe_code 8 429 = some (.newarray .int, [0, 109]) := by decide +kernel
theorem kc_8_431 : xe_code 8 431 = some (.putfield 136, [12, 50, 997]) := by decide +kernel
theorem kc_8_434 : xe_code 8 434 = some (.aload_n 0, []) := by decide +kernel
theorem kc_8_435 : xe_code 8 435 = some (.bipush 24, []) := by decide +kernel
theorem kc_8_437 : xe_code 8 437 = some (.newarray .int, [0, 109]) := by decide +kernel
theorem kc_8_439 : xe_code 8 439 = some (.putfield 139, [12, 51, 998]) := by decide +kernel
theorem kc_8_442 : xe_code 8 442 = some (.aload_n 0, []) := by decide +kernel
theorem kc_8_443 : xe_code 8 443 = some (.bipush 24, []) := by decide +kernel
theorem kc_8_445 : xe_code 8 445 = some (.newarray .int, [0, 109]) := by decide +kernel
theorem kc_8_447 : xe_code 8 447 = some (.putfield 142, [12, 52, 999]) := by decide +kernel
theorem kc_8_450 : xe_code 8 450 = some (.aload_n 0, []) := by decide +kernel
theorem kc_8_451 : xe_code 8 451 = some (.bipush 24, []) := by decide +kernel
theorem kc_8_453 : xe_code 8 453 = some (.newarray .int, [0, 109]) := by decide +kernel
theorem kc_8_455 : xe_code 8 455 = some (.putfield 145, [12, 53, 1000]) := by decide +kernel
theorem kc_8_458 : xe_code 8 458 = some (.aload_n 0, []) := by decide +kernel
theorem kc_8_459 : xe_code 8 459 = some (.bipush 24, []) := by decide +kernel
theorem kc_8_461 : xe_code 8 461 = some (.newarray .int, [0, 109]) := by decide +kernel
theorem kc_8_463 : xe_code 8 463 = some (.putfield 148, [12, 55, 1002]) := by decide +kernel
theorem kc_8_466 : xe_code 8 466 = some (.aload_n 0, []) := by decide +kernel
theorem kc_8_467 : xe_code 8 467 = some (.bipush 12, []) := by decide +kernel
theorem kc_8_469 : xe_code 8 469 = some (.newarray .int, [0, 109]) := by decide +kernel
theorem kc_8_471 : xe_code 8 471 = some (.putfield 151, [12, 57, 1004]) := by decide +kernel
theorem kc_8_474 : xe_code 8 474 = some (.aload_n 0, []) := by decide +kernel
theorem kc_8_475 : xe_code 8 475 = some (.bipush 12, []) := by decide +kernel
theorem kc_8_477 : xe_code 8 477 = some (.newarray .int, [0, 109]) := by decide +kernel
theorem kc_8_479 : xe_code 8 479 = some (.putfield 154, [12, 58, 1005]) := by decide +kernel
theorem kc_8_482 : xe_code 8 482 = some (.aload_n 0, []) := by decide +kernel
theorem kc_8_483 : xe_code 8 483 = some (.bipush 12, []) := by decide +kernel
theorem kc_8_485 : xe_code 8 485 = some (.newarray .int, [0, 109]) := by decide +kernel
theorem kc_8_487 : xe_code 8 487 = some (.putfield 157, [12, 59, 1006]) := by decide +kernel
theorem kc_8_490 : xe_code 8 490 = some (.aload_n 0, []) := by decide +kernel
theorem kc_8_491 : xe_code 8 491 = some (.bipush 12, []) := by decide +kernel
theorem kc_8_493 : xe_code 8 493 = some (.newarray .int, [0, 109]) := by decide +kernel
theorem kc_8_495 : xe_code 8 495 = some (.putfield 160, [12, 60, 1007]) := by decide +kernel
theorem kc_8_498 : xe_code 8 498 = some (.aload_n 0, []) := by decide +kernel
theorem kc_8_499 : xe_code 8 499 = some (.bipush 8, []) := by decide +kernel
theorem kc_8_501 : xe_code 8 501 = some (.newarray .int, [0, 109]) := by decide +kernel
theorem kc_8_503 : xe_code 8 503 = some (.putfield 163, [12, 62, 1009]) := by decide +kernel
theorem kc_8_506 : xe_code 8 506 = some (.aload_n 0, []) := by decide +kernel
theorem kc_8_507 : xe_code 8 507 = some (.iconst 4, []) := by decide +kernel
theorem kc_8_508 : xe_code 8 508 = some (.newarray .int, [0, 109]) := by decide +kernel
theorem kc_8_510 : xe_code 8 510 = some (.putfield 166, [12, 63, 1010]) := by decide +kernel
theorem kc_8_513 : xe_code 8 513 = some (.iconst 0, []) := by decide +kernel
theorem kc_8_514 : xe_code 8 514 = some (.istore_n 1, []) := by decide +kernel
theorem kc_8_515 : xe_code 8 515 = some (.iload_n 1, []) := by decide +kernel
theorem kc_8_516 : xe_code 8 516 = some (.sipush 600, []) := by decide +kernel
theorem kc_8_519 : xe_code 8 519 = some (.if_icmp .ge 25, [544]) := by decide +kernel
theorem kc_8_522 : xe_code 8 522 = some (.aload_n 0, []) := by decide +kernel
theorem kc_8_523 : xe_code 8 523 = some (.getfield 31, [12, 9, 956]) := by decide +kernel
theorem kc_8_526 : xe_code 8 526 = some (.iload_n 1, []) := by decide +kernel
theorem kc_8_527 : xe_code 8 527 = some (.bipush 99, []) := by decide +kernel
theorem kc_8_529 : xe_code 8 529 = some (.iastore, []) := by decide +kernel
theorem kc_8_530 : xe_code 8 530 = some (.aload_n 0, []) := by decide +kernel
theorem kc_8_531 : xe_code 8 531 = some (.getfield 34, [12, 10, 957]) := by decide +kernel
theorem kc_8_534 : xe_code 8 534 = some (.iload_n 1, []) := by decide +kernel
theorem kc_8_535 : xe_code 8 535 = some (.bipush 99, []) := by decide +kernel
theorem kc_8_537 : xe_code 8 537 = some (.iastore, []) := by decide +kernel
theorem kc_8_538 : xe_code 8 538 = some (.iinc 1 1, []) := by decide +kernel
theorem kc_8_541 : xe_code 8 541 = some (.goto (-26), [515]) := by decide +kernel
theorem kc_8_544 : xe_code 8 544 = some (.iconst 0, []) := by decide +kernel
theorem kc_8_545 : xe_code 8 545 = some (.istore_n 1, []) := by decide +kernel
theorem kc_8_546 : xe_code 8 546 = some (.iload_n 1, []) := by decide +kernel
theorem kc_8_547 : xe_code 8 547 = some (.bipush 12, []) := by decide +kernel
theorem kc_8_549 : xe_code 8 549 = some (.if_icmp .ge 17, [566]) := by decide +kernel
theorem kc_8_552 : xe_code 8 552 = some (.aload_n 0, []) := by decide +kernel
theorem kc_8_553 : xe_code 8 553 = some (.getfield 37, [12, 11, 958]) := by decide +kernel
theorem kc_8_556 : xe_code 8 556 = some (.iload_n 1, []) := by decide +kernel
theorem kc_8_557 : xe_code 8 557 = some (.bipush (-9), []) := by decide +kernel
theorem kc_8_559 : xe_code 8 559 = some (.iastore, []) := by decide +kernel
theorem kc_8_560 : xe_code 8 560 = some (.iinc 1 1, []) := by decide +kernel
theorem kc_8_563 : xe_code 8 563 = some (.goto (-17), [546]) := by decide +kernel
theorem kc_8_566 : xe_code 8 566 = some (.iconst 0, []) := by decide +kernel
theorem kc_8_567 : xe_code 8 567 = some (.istore_n 1, []) := by decide +kernel
theorem kc_8_568 : xe_code 8 568 = some (.iload_n 1, []) := by decide +kernel
theorem kc_8_569 : xe_code 8 569 = some (.bipush 24, []) := by decide +kernel
theorem kc_8_571 : xe_code 8 571 = some (.if_icmp .ge 16, [587]) := by decide +kernel
theorem kc_8_574 : xe_code 8 574 = some (.aload_n 0, []) := by decide +kernel
theorem kc_8_575 : xe_code 8 575 = some (.getfield 142, [12, 52, 999]) := by decide +kernel
theorem kc_8_578 : xe_code 8 578 = some (.iload_n 1, []) := by decide +kernel
theorem kc_8_579 : xe_code 8 579 = some (.iconst 2, []) := by decide +kernel
theorem kc_8_580 : xe_code 8 580 = some (.iastore, []) := by decide +kernel
theorem kc_8_581 : xe_code 8 581 = some (.iinc 1 1, []) := by decide +kernel
theorem kc_8_584 : xe_code 8 584 = some (.goto (-16), [568]) := by decide +kernel
theorem kc_8_587 : xe_code 8 587 = some (.iconst 0, []) := by decide +kernel
theorem kc_8_588 : xe_code 8 588 = some (.istore_n 1, []) := by decide +kernel
theorem kc_8_589 : xe_code 8 589 = some (.iload_n 1, []) := by decide +kernel
theorem kc_8_590 : xe_code 8 590 = some (.bipush 8, []) := by decide +kernel
theorem kc_8_592 : xe_code 8 592 = some (.if_icmp .ge 16, [608]) := by decide +kernel
theorem kc_8_595 : xe_code 8 595 = some (.aload_n 0, []) := by decide +kernel
theorem kc_8_596 : xe_code 8 596 = some (.getfield 163, [12, 62, 1009]) := by decide +kernel
theorem kc_8_599 : xe_code 8 599 = some (.iload_n 1, []) := by decide +kernel
theorem kc_8_600 : xe_code 8 600 = some (.iconst (-1), []) := by decide +kernel
theorem kc_8_601 : xe_code 8 601 = some (.iastore, []) := by decide +kernel
theorem kc_8_602 : xe_code 8 602 = some (.iinc 1 1, []) := by decide +kernel
theorem kc_8_605 : xe_code 8 605 = some (.goto (-16), [589]) := by decide +kernel
theorem kc_8_608 : xe_code 8 608 = some (.iconst 0, []) := by decide +kernel
theorem kc_8_609 : xe_code 8 609 = some (.istore_n 1, []) := by decide +kernel
theorem kc_8_610 : xe_code 8 610 = some (.iload_n 1, []) := by decide +kernel
theorem kc_8_611 : xe_code 8 611 = some (.iconst 4, []) := by decide +kernel
theorem kc_8_612 : xe_code 8 612 = some (.if_icmp .ge 16, [628]) := by decide +kernel
theorem kc_8_615 : xe_code 8 615 = some (.aload_n 0, []) := by decide +kernel
theorem kc_8_616 : xe_code 8 616 = some (.getfield 166, [12, 63, 1010]) := by decide +kernel
theorem kc_8_619 : xe_code 8 619 = some (.iload_n 1, []) := by decide +kernel
theorem kc_8_620 : xe_code 8 620 = some (.iconst (-1), []) := by decide +kernel
theorem kc_8_621 : xe_code 8 621 = some (.iastore, []) := by decide +kernel
theorem kc_8_622 : xe_code 8 622 = some (.iinc 1 1, []) := by decide +kernel
theorem kc_8_625 : xe_code 8 625 = some (.goto (-15), [610]) := by decide +kernel
theorem kc_8_628 : xe_code 8 628 = some (.return_, []) := by decide +kernel
theorem kc_9_0 : xe_code 9 0 = some (.aload_n 0, []) := by decide +kernel
theorem kc_9_1 : xe_code 9 1 = some (.getfield 169, [12, 0, 947]) := by decide +kernel
theorem kc_9_4 : xe_code 9 4 = some (.ireturn, []) := by decide +kernel
theorem kc_10_0 : xe_code 10 0 = some (.aload_n 0, []) := by decide +kernel
theorem kc_10_1 : xe_code 10 1 = some (.iconst 0, []) := by decide +kernel
theorem kc_10_2 : xe_code 10 2 = some (.putfield 169, [12, 0, 947]) := by decide +kernel
theorem kc_10_5 : xe_code 10 5 = some (.iload_n 1, []) := by decide +kernel
theorem kc_10_6 : xe_code 10 6 = some (.invokestatic 185, [11, 1, 1149, 12]) := by decide +kernel
theorem kc_10_9 : xe_code 10 9 = some (.ifCond .ne 9, [18]) := by decide +kernel
theorem kc_10_12 : xe_code 10 12 = some (.aload_n 0, []) := by decide +kernel
theorem kc_10_13 : xe_code 10 13 = some (.iconst (-1), []) := by decide +kernel
theorem kc_10_14 : xe_code 10 14 = some (.invokevirtual 188, [13, 1, 1155, 12]) := by decide +kernel
theorem kc_10_17 : xe_code 10 17 = some (.ireturn, []) := by decide +kernel
theorem kc_10_18 : xe_code 10 18 = some (.iload_n 2, []) := by decide +kernel
theorem kc_10_19 : xe_code 10 19 = some (.iconst 0, []) := by decide +kernel
theorem kc_10_20 : xe_code 10 20 = some (.iconst 5, []) := by decide +kernel
theorem kc_10_21 : xe_code 10 21 = some (.invokestatic 173, [12, 3, 1152, 12]) := by decide +kernel
theorem kc_10_24 : xe_code 10 24 = some (.ifCond .ne 10, [34]) := by decide +kernel
theorem kc_10_27 : xe_code 10 27 = some (.aload_n 0, []) := by decide +kernel
theorem kc_10_28 : xe_code 10 28 = some (.bipush (-2), []) := by decide +kernel
theorem kc_10_30 : xe_code 10 30 = some (.invokevirtual 188, [13, 1, 1155, 12]) := by decide +kernel
theorem kc_10_33 : xe_code 10 33 = some (.ireturn, []) := by decide +kernel
theorem kc_10_34 : xe_code 10 34 = some (.iload_n 3, []) := by decide +kernel
theorem kc_10_35 : xe_code 10 35 = some (.iload_n 2, []) := by decide +kernel
theorem kc_10_36 : xe_code 10 36 = some (.ifCond .ne 8, [44]) := by decide +kernel
theorem kc_10_39 : xe_code 10 39 = some (.bipush 10, []) := by decide +kernel
theorem kc_10_41 : xe_code 10 41 = some (.goto 4, [45]) := by decide +kernel
theorem kc_10_44 : xe_code 10 44 = some (.iconst 0, []) := by decide +kernel
theorem kc_10_45 : xe_code 10 45 = some (.if_icmp .ge 10, [55]) := by decide +kernel
theorem kc_10_48 : xe_code 10 48 = some (.aload_n 0, []) := by decide +kernel
theorem kc_10_49 : xe_code 10 49 = some (.bipush (-4), []) := by decide +kernel
theorem kc_10_51 : xe_code 10 51 = some (.invokevirtual 188, [13, 1, 1155, 12]) := by decide +kernel
theorem kc_10_54 : xe_code 10 54 = some (.ireturn, []) := by decide +kernel
theorem kc_10_55 : xe_code 10 55 = some (.iload_n 3, []) := by decide +kernel
theorem kc_10_56 : xe_code 10 56 = some (.iload_n 2, []) := by decide +kernel
theorem kc_10_57 : xe_code 10 57 = some (.ifCond .ne 8, [65]) := by decide +kernel
theorem kc_10_60 : xe_code 10 60 = some (.bipush 99, []) := by decide +kernel
theorem kc_10_62 : xe_code 10 62 = some (.goto 34, [96]) := by decide +kernel
theorem kc_10_65 : xe_code 10 65 = some (.iload_n 2, []) := by decide +kernel
theorem kc_10_66 : xe_code 10 66 = some (.iconst 1, []) := by decide +kernel
theorem kc_10_67 : xe_code 10 67 = some (.if_icmp .ne 8, [75]) := by decide +kernel
theorem kc_10_70 : xe_code 10 70 = some (.bipush 30, []) := by decide +kernel
theorem kc_10_72 : xe_code 10 72 = some (.goto 24, [96]) := by decide +kernel
theorem kc_10_75 : xe_code 10 75 = some (.iload_n 2, []) := by decide +kernel
theorem kc_10_76 : xe_code 10 76 = some (.iconst 4, []) := by decide +kernel
theorem kc_10_77 : xe_code 10 77 = some (.if_icmp .ge 8, [85]) := by decide +kernel
theorem kc_10_80 : xe_code 10 80 = some (.bipush 50, []) := by decide +kernel
theorem kc_10_82 : xe_code 10 82 = some (.goto 14, [96]) := by decide +kernel
theorem kc_10_85 : xe_code 10 85 = some (.iload_n 2, []) := by decide +kernel
theorem kc_10_86 : xe_code 10 86 = some (.iconst 4, []) := by decide +kernel
theorem kc_10_87 : xe_code 10 87 = some (.if_icmp .ne 7, [94]) := by decide +kernel
theorem kc_10_90 : xe_code 10 90 = some (.iconst 1, []) := by decide +kernel
theorem kc_10_91 : xe_code 10 91 = some (.goto 5, [96]) := by decide +kernel
theorem kc_10_94 : xe_code 10 94 = some (.ldc 192, [99999, 1159]) := by decide +kernel
theorem kc_10_96 : xe_code 10 96 = some (.if_icmp .le 10, [106]) := by decide +kernel
theorem kc_10_99 : xe_code 10 99 = some (.aload_n 0, []) := by decide +kernel
theorem kc_10_100 : xe_code 10 100 = some (.bipush (-6), []) := by decide +kernel
theorem kc_10_102 : xe_code 10 102 = some (.invokevirtual 188, [13, 1, 1155, 12]) := by decide +kernel
theorem kc_10_105 : xe_code 10 105 = some (.ireturn, []) := by decide +kernel
theorem kc_10_106 : xe_code 10 106 = some (.aload_n 0, []) := by decide +kernel
theorem kc_10_107 : xe_code 10 107 = some (.iload_n 1, []) := by decide +kernel
theorem kc_10_108 : xe_code 10 108 = some (.iload_n 2, []) := by decide +kernel
theorem kc_10_109 : xe_code 10 109 = some (.invokevirtual 193, [14, 2, 1160, 12]) := by decide +kernel
theorem kc_10_112 : xe_code 10 112 = some (.istore 4, []) := by decide +kernel
theorem kc_10_114 : xe_code 10 114 = some (.aload_n 0, []) := by decide +kernel
theorem kc_10_115 : xe_code 10 115 = some (.iload_n 1, []) := by decide +kernel
theorem kc_10_116 : xe_code 10 116 = some (.iload_n 2, []) := by decide +kernel
theorem kc_10_117 : xe_code 10 117 = some (.iload_n 3, []) := by decide +kernel
theorem kc_10_118 : xe_code 10 118 = some (.invokevirtual 197, [15, 3, 1164, 12]) := by decide +kernel
theorem kc_10_121 : xe_code 10 121 = some (.iload 4, []) := by decide +kernel
theorem kc_10_123 : xe_code 10 123 = some (.ireturn, []) := by decide +kernel
theorem kc_11_0 : xe_code 11 0 = some (.iload_n 0, []) := by decide +kernel
theorem kc_11_1 : xe_code 11 1 = some (.iconst 0, []) := by decide +kernel
theorem kc_11_2 : xe_code 11 2 = some (.iconst 5, []) := by decide +kernel
theorem kc_11_3 : xe_code 11 3 = some (.invokestatic 173, [12, 3, 1152, 12]) := by decide +kernel
theorem kc_11_6 : xe_code 11 6 = some (.ireturn, []) := by decide +kernel
theorem kc_12_0 : xe_code 12 0 = some (.iload_n 0, []) := by decide +kernel
theorem kc_12_1 : xe_code 12 1 = some (.iload_n 1, []) := by decide +kernel
theorem kc_12_2 : xe_code 12 2 = some (.if_icmp .lt 12, [14]) := by decide +kernel
theorem kc_12_5 : xe_code 12 5 = some (.iload_n 0, []) := by decide +kernel
theorem kc_12_6 : xe_code 12 6 = some (.iload_n 2, []) := by decide +kernel
theorem kc_12_7 : xe_code 12 7 = some (.if_icmp .gt 7, [14]) := by decide +kernel
theorem kc_12_10 : xe_code 12 10 = some (.iconst 1, []) := by decide +kernel
theorem kc_12_11 : xe_code 12 11 = some (.goto 4, [15]) := by decide +kernel
theorem kc_12_14 : xe_code 12 14 = some (.iconst 0, []) := by decide +kernel
theorem kc_12_15 : xe_code 12 15 = some (.ireturn, []) := by decide +kernel
theorem kc_13_0 : xe_code 13 0 = some (.aload_n 0, []) := by decide +kernel
theorem kc_13_1 : xe_code 13 1 = some (.getfield 87, [12, 29, 976]) := by decide +kernel
theorem kc_13_4 : xe_code 13 4 = some (.iload_n 1, []) := by decide +kernel
theorem kc_13_5 : xe_code 13 5 = some (.ineg, []) := by decide +kernel
theorem kc_13_6 : xe_code 13 6 = some (.dup2, []) := by decide +kernel
theorem kc_13_7 : xe_code 13 7 = some (.iaload, []) := by decide +kernel
theorem kc_13_8 : xe_code 13 8 = some (.iconst 1, []) := by decide +kernel
theorem kc_13_9 : xe_code 13 9 = some (.iadd, []) := by decide +kernel
theorem kc_13_10 : xe_code 13 10 = some (.iastore, []) := by decide +kernel
theorem kc_13_11 : xe_code 13 11 = some (.iload_n 1, []) := by decide +kernel
theorem kc_13_12 : xe_code 13 12 = some (.ireturn, []) := by decide +kernel
theorem kc_14_0 : xe_code 14 0 = some (.iload_n 2, []) := by decide +kernel
theorem kc_14_1 : xe_code 14 1 = some (.tableswitch 70 0 4 #[35, 42, 49, 56, 63], [71, 36, 43, 50, 57, 64]) := by decide +kernel
theorem kc_14_36 : xe_code 14 36 = some (.aload_n 0, []) := by decide +kernel
theorem kc_14_37 : xe_code 14 37 = some (.getfield 7, [12, 2, 949]) := by decide +kernel
theorem kc_14_40 : xe_code 14 40 = some (.iload_n 1, []) := by decide +kernel
theorem kc_14_41 : xe_code 14 41 = some (.iaload, []) := by decide +kernel
theorem kc_14_42 : xe_code 14 42 = some (.ireturn, []) := by decide +kernel
theorem kc_14_43 : xe_code 14 43 = some (.aload_n 0, []) := by decide +kernel
theorem kc_14_44 : xe_code 14 44 = some (.getfield 13, [12, 3, 950]) := by decide +kernel
theorem kc_14_47 : xe_code 14 47 = some (.iload_n 1, []) := by decide +kernel
theorem kc_14_48 : xe_code 14 48 = some (.iaload, []) := by decide +kernel
theorem kc_14_49 : xe_code 14 49 = some (.ireturn, []) := by decide +kernel
theorem kc_14_50 : xe_code 14 50 = some (.aload_n 0, []) := by decide +kernel
theorem kc_14_51 : xe_code 14 51 = some (.getfield 16, [12, 4, 951]) := by decide +kernel
theorem kc_14_54 : xe_code 14 54 = some (.iload_n 1, []) := by decide +kernel
theorem kc_14_55 : xe_code 14 55 = some (.iaload, []) := by decide +kernel
theorem kc_14_56 : xe_code 14 56 = some (.ireturn, []) := by decide +kernel
theorem kc_14_57 : xe_code 14 57 = some (.aload_n 0, []) := by decide +kernel
theorem kc_14_58 : xe_code 14 58 = some (.getfield 19, [12, 5, 952]) := by decide +kernel
theorem kc_14_61 : xe_code 14 61 = some (.iload_n 1, []) := by decide +kernel
theorem kc_14_62 : xe_code 14 62 = some (.iaload, []) := by decide +kernel
theorem kc_14_63 : xe_code 14 63 = some (.ireturn, []) := by decide +kernel
theorem kc_14_64 : xe_code 14 64 = some (.aload_n 0, []) := by decide +kernel
theorem kc_14_65 : xe_code 14 65 = some (.getfield 22, [12, 6, 953]) := by decide +kernel
theorem kc_14_68 : xe_code 14 68 = some (.iload_n 1, []) := by decide +kernel
theorem kc_14_69 : xe_code 14 69 = some (.iaload, []) := by decide +kernel
theorem kc_14_70 : xe_code 14 70 = some (.ireturn, []) := by decide +kernel
theorem kc_14_71 : xe_code 14 71 = some (.aload_n 0, []) := by decide +kernel
theorem kc_14_72 : xe_code 14 72 = some (.getfield 25, [12, 7, 954]) := by decide +kernel
theorem kc_14_75 : xe_code 14 75 = some (.iload_n 1, []) := by decide +kernel
theorem kc_14_76 : xe_code 14 76 = some (.iaload, []) := by decide +kernel
theorem kc_14_77 : xe_code 14 77 = some (.ireturn, []) := by decide +kernel
theorem kc_15_0 : xe_code 15 0 = some (.aload_n 0, []) := by decide +kernel
theorem kc_15_1 : xe_code 15 1 = some (.getfield 7, [12, 2, 949]) := by decide +kernel
theorem kc_15_4 : xe_code 15 4 = some (.iload_n 1, []) := by decide +kernel
theorem kc_15_5 : xe_code 15 5 = some (.iload_n 2, []) := by decide +kernel
theorem kc_15_6 : xe_code 15 6 = some (.ifCond .ne 7, [13]) := by decide +kernel
theorem kc_15_9 : xe_code 15 9 = some (.iload_n 3, []) := by decide +kernel
theorem kc_15_10 : xe_code 15 10 = some (.goto 9, [19]) := by decide +kernel
theorem kc_15_13 : xe_code 15 13 = some (.aload_n 0, []) := by decide +kernel
theorem kc_15_14 : xe_code 15 14 = some (.getfield 7, [12, 2, 949]) := by decide +kernel
theorem kc_15_17 : xe_code 15 17 = some (.iload_n 1, []) := by decide +kernel
theorem kc_15_18 : xe_code 15 18 = some (.iaload, []) := by decide +kernel
theorem kc_15_19 : xe_code 15 19 = some (.iastore, []) := by decide +kernel
theorem kc_15_20 : xe_code 15 20 = some (.aload_n 0, []) := by decide +kernel
theorem kc_15_21 : xe_code 15 21 = some (.getfield 13, [12, 3, 950]) := by decide +kernel
theorem kc_15_24 : xe_code 15 24 = some (.iload_n 1, []) := by decide +kernel
theorem kc_15_25 : xe_code 15 25 = some (.iload_n 2, []) := by decide +kernel
theorem kc_15_26 : xe_code 15 26 = some (.iconst 1, []) := by decide +kernel
theorem kc_15_27 : xe_code 15 27 = some (.if_icmp .ne 7, [34]) := by decide +kernel
theorem kc_15_30 : xe_code 15 30 = some (.iload_n 3, []) := by decide +kernel
theorem kc_15_31 : xe_code 15 31 = some (.goto 9, [40]) := by decide +kernel
theorem kc_15_34 : xe_code 15 34 = some (.aload_n 0, []) := by decide +kernel
theorem kc_15_35 : xe_code 15 35 = some (.getfield 13, [12, 3, 950]) := by decide +kernel
theorem kc_15_38 : xe_code 15 38 = some (.iload_n 1, []) := by decide +kernel
theorem kc_15_39 : xe_code 15 39 = some (.iaload, []) := by decide +kernel
theorem kc_15_40 : xe_code 15 40 = some (.iastore, []) := by decide +kernel
theorem kc_15_41 : xe_code 15 41 = some (.aload_n 0, []) := by decide +kernel
theorem kc_15_42 : xe_code 15 42 = some (.getfield 16, [12, 4, 951]) := by decide +kernel
theorem kc_15_45 : xe_code 15 45 = some (.iload_n 1, []) := by decide +kernel
theorem kc_15_46 : xe_code 15 46 = some (.iload_n 2, []) := by decide +kernel
theorem kc_15_47 : xe_code 15 47 = some (.iconst 2, []) := by decide +kernel
theorem kc_15_48 : xe_code 15 48 = some (.if_icmp .ne 7, [55]) := by decide +kernel
theorem kc_15_51 : xe_code 15 51 = some (.iload_n 3, []) := by decide +kernel
theorem kc_15_52 : xe_code 15 52 = some (.goto 9, [61]) := by decide +kernel
theorem kc_15_55 : xe_code 15 55 = some (.aload_n 0, []) := by decide +kernel
theorem kc_15_56 : xe_code 15 56 = some (.getfield 16, [12, 4, 951]) := by decide +kernel
theorem kc_15_59 : xe_code 15 59 = some (.iload_n 1, []) := by decide +kernel
theorem kc_15_60 : xe_code 15 60 = some (.iaload, []) := by decide +kernel
theorem kc_15_61 : xe_code 15 61 = some (.iastore, []) := by decide +kernel
theorem kc_15_62 : xe_code 15 62 = some (.aload_n 0, []) := by decide +kernel
theorem kc_15_63 : xe_code 15 63 = some (.getfield 19, [12, 5, 952]) := by decide +kernel
theorem kc_15_66 : xe_code 15 66 = some (.iload_n 1, []) := by decide +kernel
theorem kc_15_67 : xe_code 15 67 = some (.iload_n 2, []) := by decide +kernel
theorem kc_15_68 : xe_code 15 68 = some (.iconst 3, []) := by decide +kernel
theorem kc_15_69 : xe_code 15 69 = some (.if_icmp .ne 7, [76]) := by decide +kernel
theorem kc_15_72 : xe_code 15 72 = some (.iload_n 3, []) := by decide +kernel
theorem kc_15_73 : xe_code 15 73 = some (.goto 9, [82]) := by decide +kernel
theorem kc_15_76 : xe_code 15 76 = some (.aload_n 0, []) := by decide +kernel
theorem kc_15_77 : xe_code 15 77 = some (.getfield 19, [12, 5, 952]) := by decide +kernel
theorem kc_15_80 : xe_code 15 80 = some (.iload_n 1, []) := by decide +kernel
theorem kc_15_81 : xe_code 15 81 = some (.iaload, []) := by decide +kernel
theorem kc_15_82 : xe_code 15 82 = some (.iastore, []) := by decide +kernel
theorem kc_15_83 : xe_code 15 83 = some (.aload_n 0, []) := by decide +kernel
theorem kc_15_84 : xe_code 15 84 = some (.getfield 22, [12, 6, 953]) := by decide +kernel
theorem kc_15_87 : xe_code 15 87 = some (.iload_n 1, []) := by decide +kernel
theorem kc_15_88 : xe_code 15 88 = some (.iload_n 2, []) := by decide +kernel
theorem kc_15_89 : xe_code 15 89 = some (.iconst 4, []) := by decide +kernel
theorem kc_15_90 : xe_code 15 90 = some (.if_icmp .ne 7, [97]) := by decide +kernel
theorem kc_15_93 : xe_code 15 93 = some (.iload_n 3, []) := by decide +kernel
theorem kc_15_94 : xe_code 15 94 = some (.goto 9, [103]) := by decide +kernel
theorem kc_15_97 : xe_code 15 97 = some (.aload_n 0, []) := by decide +kernel
theorem kc_15_98 : xe_code 15 98 = some (.getfield 22, [12, 6, 953]) := by decide +kernel
theorem kc_15_101 : xe_code 15 101 = some (.iload_n 1, []) := by decide +kernel
theorem kc_15_102 : xe_code 15 102 = some (.iaload, []) := by decide +kernel
theorem kc_15_103 : xe_code 15 103 = some (.iastore, []) := by decide +kernel
theorem kc_15_104 : xe_code 15 104 = some (.aload_n 0, []) := by decide +kernel
theorem kc_15_105 : xe_code 15 105 = some (.getfield 25, [12, 7, 954]) := by decide +kernel
theorem kc_15_108 : xe_code 15 108 = some (.iload_n 1, []) := by decide +kernel
theorem kc_15_109 : xe_code 15 109 = some (.iload_n 2, []) := by decide +kernel
theorem kc_15_110 : xe_code 15 110 = some (.iconst 5, []) := by decide +kernel
theorem kc_15_111 : xe_code 15 111 = some (.if_icmp .ne 7, [118]) := by decide +kernel
theorem kc_15_114 : xe_code 15 114 = some (.iload_n 3, []) := by decide +kernel
theorem kc_15_115 : xe_code 15 115 = some (.goto 9, [124]) := by decide +kernel
theorem kc_15_118 : xe_code 15 118 = some (.aload_n 0, []) := by decide +kernel
theorem kc_15_119 : xe_code 15 119 = some (.getfield 25, [12, 7, 954]) := by decide +kernel
theorem kc_15_122 : xe_code 15 122 = some (.iload_n 1, []) := by decide +kernel
theorem kc_15_123 : xe_code 15 123 = some (.iaload, []) := by decide +kernel
theorem kc_15_124 : xe_code 15 124 = some (.iastore, []) := by decide +kernel
theorem kc_15_125 : xe_code 15 125 = some (.aload_n 0, []) := by decide +kernel
theorem kc_15_126 : xe_code 15 126 = some (.iconst 0, []) := by decide +kernel
theorem kc_15_127 : xe_code 15 127 = some (.putfield 181, [12, 41, 988]) := by decide +kernel
theorem kc_15_130 : xe_code 15 130 = some (.return_, []) := by decide +kernel
theorem kc_16_0 : xe_code 16 0 = some (.aload_n 0, []) := by decide +kernel
theorem kc_16_1 : xe_code 16 1 = some (.iconst 0, []) := by decide +kernel
theorem kc_16_2 : xe_code 16 2 = some (.putfield 169, [12, 0, 947]) := by decide +kernel
theorem kc_16_5 : xe_code 16 5 = some (.iload_n 1, []) := by decide +kernel
theorem kc_16_6 : xe_code 16 6 = some (.invokestatic 185, [11, 1, 1149, 12]) := by decide +kernel
theorem kc_16_9 : xe_code 16 9 = some (.ifCond .eq 13, [22]) := by decide +kernel
theorem kc_16_12 : xe_code 16 12 = some (.iload_n 2, []) := by decide +kernel
theorem kc_16_13 : xe_code 16 13 = some (.iconst 0, []) := by decide +kernel
theorem kc_16_14 : xe_code 16 14 = some (.bipush 23, []) := by decide +kernel
theorem kc_16_16 : xe_code 16 16 = some (.invokestatic 173, [12, 3, 1152, 12]) := by decide +kernel
theorem kc_16_19 : xe_code 16 19 = some (.ifCond .ne 9, [28]) := by decide +kernel
theorem kc_16_22 : xe_code 16 22 = some (.aload_n 0, []) := by decide +kernel
theorem kc_16_23 : xe_code 16 23 = some (.iconst (-1), []) := by decide +kernel
theorem kc_16_24 : xe_code 16 24 = some (.invokevirtual 188, [13, 1, 1155, 12]) := by decide +kernel
theorem kc_16_27 : xe_code 16 27 = some (.ireturn, []) := by decide +kernel
theorem kc_16_28 : xe_code 16 28 = some (.iload_n 3, []) := by decide +kernel
theorem kc_16_29 : xe_code 16 29 = some (.ifCond .ge 10, [39]) := by decide +kernel
theorem kc_16_32 : xe_code 16 32 = some (.aload_n 0, []) := by decide +kernel
theorem kc_16_33 : xe_code 16 33 = some (.bipush (-4), []) := by decide +kernel
theorem kc_16_35 : xe_code 16 35 = some (.invokevirtual 188, [13, 1, 1155, 12]) := by decide +kernel
theorem kc_16_38 : xe_code 16 38 = some (.ireturn, []) := by decide +kernel
theorem kc_16_39 : xe_code 16 39 = some (.iload_n 3, []) := by decide +kernel
theorem kc_16_40 : xe_code 16 40 = some (.sipush 999, []) := by decide +kernel
theorem kc_16_43 : xe_code 16 43 = some (.if_icmp .le 10, [53]) := by decide +kernel
theorem kc_16_46 : xe_code 16 46 = some (.aload_n 0, []) := by decide +kernel
theorem kc_16_47 : xe_code 16 47 = some (.bipush (-6), []) := by decide +kernel
theorem kc_16_49 : xe_code 16 49 = some (.invokevirtual 188, [13, 1, 1155, 12]) := by decide +kernel
theorem kc_16_52 : xe_code 16 52 = some (.ireturn, []) := by decide +kernel
theorem kc_16_53 : xe_code 16 53 = some (.aload_n 0, []) := by decide +kernel
theorem kc_16_54 : xe_code 16 54 = some (.getfield 28, [12, 8, 955]) := by decide +kernel
theorem kc_16_57 : xe_code 16 57 = some (.bipush 24, []) := by decide +kernel
theorem kc_16_59 : xe_code 16 59 = some (.iload_n 1, []) := by decide +kernel
theorem kc_16_60 : xe_code 16 60 = some (.imul, []) := by decide +kernel
theorem kc_16_61 : xe_code 16 61 = some (.iload_n 2, []) := by decide +kernel
theorem kc_16_62 : xe_code 16 62 = some (.iadd, []) := by decide +kernel
theorem kc_16_63 : xe_code 16 63 = some (.iaload, []) := by decide +kernel
theorem kc_16_64 : xe_code 16 64 = some (.istore 4, []) := by decide +kernel
theorem kc_16_66 : xe_code 16 66 = some (.aload_n 0, []) := by decide +kernel
theorem kc_16_67 : xe_code 16 67 = some (.getfield 28, [12, 8, 955]) := by decide +kernel
theorem kc_16_70 : xe_code 16 70 = some (.bipush 24, []) := by decide +kernel
theorem kc_16_72 : xe_code 16 72 = some (.iload_n 1, []) := by decide +kernel
theorem kc_16_73 : xe_code 16 73 = some (.imul, []) := by decide +kernel
theorem kc_16_74 : xe_code 16 74 = some (.iload_n 2, []) := by decide +kernel
theorem kc_16_75 : xe_code 16 75 = some (.iadd, []) := by decide +kernel
theorem kc_16_76 : xe_code 16 76 = some (.iload_n 3, []) := by decide +kernel
theorem kc_16_77 : xe_code 16 77 = some (.iastore, []) := by decide +kernel
theorem kc_16_78 : xe_code 16 78 = some (.aload_n 0, []) := by decide +kernel
theorem kc_16_79 : xe_code 16 79 = some (.iconst 0, []) := by decide +kernel
theorem kc_16_80 : xe_code 16 80 = some (.putfield 181, [12, 41, 988]) := by decide +kernel
theorem kc_16_83 : xe_code 16 83 = some (.iload 4, []) := by decide +kernel
theorem kc_16_85 : xe_code 16 85 = some (.ireturn, []) := by decide +kernel
theorem kc_17_0 : xe_code 17 0 = some (.aload_n 0, []) := by decide +kernel
theorem kc_17_1 : xe_code 17 1 = some (.iconst 0, []) := by decide +kernel
theorem kc_17_2 : xe_code 17 2 = some (.putfield 169, [12, 0, 947]) := by decide +kernel
theorem kc_17_5 : xe_code 17 5 = some (.iload_n 2, []) := by decide +kernel
theorem kc_17_6 : xe_code 17 6 = some (.iconst 0, []) := by decide +kernel
theorem kc_17_7 : xe_code 17 7 = some (.iconst 1, []) := by decide +kernel
theorem kc_17_8 : xe_code 17 8 = some (.invokestatic 173, [12, 3, 1152, 12]) := by decide +kernel
theorem kc_17_11 : xe_code 17 11 = some (.ifCond .ne 10, [21]) := by decide +kernel
theorem kc_17_14 : xe_code 17 14 = some (.aload_n 0, []) := by decide +kernel
theorem kc_17_15 : xe_code 17 15 = some (.bipush (-2), []) := by decide +kernel
theorem kc_17_17 : xe_code 17 17 = some (.invokevirtual 201, [18, 1, 1176, 12]) := by decide +kernel
theorem kc_17_20 : xe_code 17 20 = some (.ireturn, []) := by decide +kernel
theorem kc_17_21 : xe_code 17 21 = some (.iload_n 1, []) := by decide +kernel
theorem kc_17_22 : xe_code 17 22 = some (.ifCond .lt 17, [39]) := by decide +kernel
theorem kc_17_25 : xe_code 17 25 = some (.iload_n 3, []) := by decide +kernel
theorem kc_17_26 : xe_code 17 26 = some (.iload_n 2, []) := by decide +kernel
theorem kc_17_27 : xe_code 17 27 = some (.ifCond .ne 8, [35]) := by decide +kernel
theorem kc_17_30 : xe_code 17 30 = some (.bipush (-20), []) := by decide +kernel
theorem kc_17_32 : xe_code 17 32 = some (.goto 4, [36]) := by decide +kernel
theorem kc_17_35 : xe_code 17 35 = some (.iconst 0, []) := by decide +kernel
theorem kc_17_36 : xe_code 17 36 = some (.if_icmp .ge 10, [46]) := by decide +kernel
theorem kc_17_39 : xe_code 17 39 = some (.aload_n 0, []) := by decide +kernel
theorem kc_17_40 : xe_code 17 40 = some (.bipush (-4), []) := by decide +kernel
theorem kc_17_42 : xe_code 17 42 = some (.invokevirtual 201, [18, 1, 1176, 12]) := by decide +kernel
theorem kc_17_45 : xe_code 17 45 = some (.ireturn, []) := by decide +kernel
theorem kc_17_46 : xe_code 17 46 = some (.iload_n 1, []) := by decide +kernel
theorem kc_17_47 : xe_code 17 47 = some (.sipush 599, []) := by decide +kernel
theorem kc_17_50 : xe_code 17 50 = some (.if_icmp .gt 24, [74]) := by decide +kernel
theorem kc_17_53 : xe_code 17 53 = some (.iload_n 3, []) := by decide +kernel
theorem kc_17_54 : xe_code 17 54 = some (.iload_n 2, []) := by decide +kernel
theorem kc_17_55 : xe_code 17 55 = some (.ifCond .ne 8, [63]) := by decide +kernel
theorem kc_17_58 : xe_code 17 58 = some (.bipush 30, []) := by decide +kernel
theorem kc_17_60 : xe_code 17 60 = some (.goto 5, [65]) := by decide +kernel
theorem kc_17_63 : xe_code 17 63 = some (.bipush 20, []) := by decide +kernel
theorem kc_17_65 : xe_code 17 65 = some (.if_icmp .le 16, [81]) := by decide +kernel
theorem kc_17_68 : xe_code 17 68 = some (.iload_n 3, []) := by decide +kernel
theorem kc_17_69 : xe_code 17 69 = some (.bipush 99, []) := by decide +kernel
theorem kc_17_71 : xe_code 17 71 = some (.if_icmp .eq 10, [81]) := by decide +kernel
theorem kc_17_74 : xe_code 17 74 = some (.aload_n 0, []) := by decide +kernel
theorem kc_17_75 : xe_code 17 75 = some (.bipush (-6), []) := by decide +kernel
theorem kc_17_77 : xe_code 17 77 = some (.invokevirtual 201, [18, 1, 1176, 12]) := by decide +kernel
theorem kc_17_80 : xe_code 17 80 = some (.ireturn, []) := by decide +kernel
theorem kc_17_81 : xe_code 17 81 = some (.iload_n 2, []) := by decide +kernel
theorem kc_17_82 : xe_code 17 82 = some (.ifCond .ne 12, [94]) := by decide +kernel
theorem kc_17_85 : xe_code 17 85 = some (.aload_n 0, []) := by decide +kernel
theorem kc_17_86 : xe_code 17 86 = some (.getfield 31, [12, 9, 956]) := by decide +kernel
theorem kc_17_89 : xe_code 17 89 = some (.iload_n 1, []) := by decide +kernel
theorem kc_17_90 : xe_code 17 90 = some (.iaload, []) := by decide +kernel
theorem kc_17_91 : xe_code 17 91 = some (.goto 9, [100]) := by decide +kernel
theorem kc_17_94 : xe_code 17 94 = some (.aload_n 0, []) := by decide +kernel
theorem kc_17_95 : xe_code 17 95 = some (.getfield 34, [12, 10, 957]) := by decide +kernel
theorem kc_17_98 : xe_code 17 98 = some (.iload_n 1, []) := by decide +kernel
theorem kc_17_99 : xe_code 17 99 = some (.iaload, []) := by decide +kernel
theorem kc_17_100 : xe_code 17 100 = some (.istore 4, []) := by decide +kernel
theorem kc_17_102 : xe_code 17 102 = some (.aload_n 0, []) := by decide +kernel
theorem kc_17_103 : xe_code 17 103 = some (.getfield 31, [12, 9, 956]) := by decide +kernel
theorem kc_17_106 : xe_code 17 106 = some (.iload_n 1, []) := by decide +kernel
theorem kc_17_107 : xe_code 17 107 = some (.iload_n 2, []) := by decide +kernel
theorem kc_17_108 : xe_code 17 108 = some (.ifCond .ne 7, [115]) := by decide +kernel
theorem kc_17_111 : xe_code 17 111 = some (.iload_n 3, []) := by decide +kernel
theorem kc_17_112 : xe_code 17 112 = some (.goto 9, [121]) := by decide +kernel
theorem kc_17_115 : xe_code 17 115 = some (.aload_n 0, []) := by decide +kernel
theorem kc_17_116 : xe_code 17 116 = some (.getfield 31, [12, 9, 956]) := by decide +kernel
theorem kc_17_119 : xe_code 17 119 = some (.iload_n 1, []) := by decide +kernel
theorem kc_17_120 : xe_code 17 120 = some (.iaload, []) := by decide +kernel
theorem kc_17_121 : xe_code 17 121 = some (.iastore, []) := by decide +kernel
theorem kc_17_122 : xe_code 17 122 = some (.aload_n 0, []) := by decide +kernel
theorem kc_17_123 : xe_code 17 123 = some (.getfield 34, [12, 10, 957]) := by decide +kernel
theorem kc_17_126 : xe_code 17 126 = some (.iload_n 1, []) := by decide +kernel
theorem kc_17_127 : xe_code 17 127 = some (.iload_n 2, []) := by decide +kernel
theorem kc_17_128 : xe_code 17 128 = some (.iconst 1, []) := by decide +kernel
theorem kc_17_129 : xe_code 17 129 = some (.if_icmp .ne 7, [136]) := by decide +kernel
theorem kc_17_132 : xe_code 17 132 = some (.iload_n 3, []) := by decide +kernel
theorem kc_17_133 : xe_code 17 133 = some (.goto 9, [142]) := by decide +kernel
theorem kc_17_136 : xe_code 17 136 = some (.aload_n 0, []) := by decide +kernel
theorem kc_17_137 : xe_code 17 137 = some (.getfield 34, [12, 10, 957]) := by decide +kernel
theorem kc_17_140 : xe_code 17 140 = some (.iload_n 1, []) := by decide +kernel
theorem kc_17_141 : xe_code 17 141 = some (.iaload, []) := by decide +kernel
theorem kc_17_142 : xe_code 17 142 = some (.iastore, []) := by decide +kernel
theorem kc_17_143 : xe_code 17 143 = some (.aload_n 0, []) := by decide +kernel
theorem kc_17_144 : xe_code 17 144 = some (.iconst 0, []) := by decide +kernel
theorem kc_17_145 : xe_code 17 145 = some (.putfield 181, [12, 41, 988]) := by decide +kernel
theorem kc_17_148 : xe_code 17 148 = some (.iload 4, []) := by decide +kernel
theorem kc_17_150 : xe_code 17 150 = some (.ireturn, []) := by decide +kernel
theorem kc_18_0 : xe_code 18 0 = some (.aload_n 0, []) := by decide +kernel
theorem kc_18_1 : xe_code 18 1 = some (.getfield 87, [12, 29, 976]) := by decide +kernel
theorem kc_18_4 : xe_code 18 4 = some (.iload_n 1, []) := by decide +kernel
theorem kc_18_5 : xe_code 18 5 = some (.ineg, []) := by decide +kernel
theorem kc_18_6 : xe_code 18 6 = some (.dup2, []) := by decide +kernel
theorem kc_18_7 : xe_code 18 7 = some (.iaload, []) := by decide +kernel
theorem kc_18_8 : xe_code 18 8 = some (.iconst 1, []) := by decide +kernel
theorem kc_18_9 : xe_code 18 9 = some (.iadd, []) := by decide +kernel
theorem kc_18_10 : xe_code 18 10 = some (.iastore, []) := by decide +kernel
theorem kc_18_11 : xe_code 18 11 = some (.ldc 172, [1000000000, 1180]) := by decide +kernel
theorem kc_18_13 : xe_code 18 13 = some (.iload_n 1, []) := by decide +kernel
theorem kc_18_14 : xe_code 18 14 = some (.isub, []) := by decide +kernel
theorem kc_18_15 : xe_code 18 15 = some (.ireturn, []) := by decide +kernel
theorem kc_19_0 : xe_code 19 0 = some (.aload_n 0, []) := by decide +kernel
theorem kc_19_1 : xe_code 19 1 = some (.iconst 0, []) := by decide +kernel
theorem kc_19_2 : xe_code 19 2 = some (.putfield 169, [12, 0, 947]) := by decide +kernel
theorem kc_19_5 : xe_code 19 5 = some (.iload_n 2, []) := by decide +kernel
theorem kc_19_6 : xe_code 19 6 = some (.iconst 0, []) := by decide +kernel
theorem kc_19_7 : xe_code 19 7 = some (.iconst 1, []) := by decide +kernel
theorem kc_19_8 : xe_code 19 8 = some (.invokestatic 173, [12, 3, 1152, 12]) := by decide +kernel
theorem kc_19_11 : xe_code 19 11 = some (.ifCond .ne 10, [21]) := by decide +kernel
theorem kc_19_14 : xe_code 19 14 = some (.aload_n 0, []) := by decide +kernel
theorem kc_19_15 : xe_code 19 15 = some (.bipush (-2), []) := by decide +kernel
theorem kc_19_17 : xe_code 19 17 = some (.invokevirtual 201, [18, 1, 1176, 12]) := by decide +kernel
theorem kc_19_20 : xe_code 19 20 = some (.ireturn, []) := by decide +kernel
theorem kc_19_21 : xe_code 19 21 = some (.iload_n 1, []) := by decide +kernel
theorem kc_19_22 : xe_code 19 22 = some (.ifCond .ge 10, [32]) := by decide +kernel
theorem kc_19_25 : xe_code 19 25 = some (.aload_n 0, []) := by decide +kernel
theorem kc_19_26 : xe_code 19 26 = some (.bipush (-4), []) := by decide +kernel
theorem kc_19_28 : xe_code 19 28 = some (.invokevirtual 201, [18, 1, 1176, 12]) := by decide +kernel
theorem kc_19_31 : xe_code 19 31 = some (.ireturn, []) := by decide +kernel
theorem kc_19_32 : xe_code 19 32 = some (.iload_n 1, []) := by decide +kernel
theorem kc_19_33 : xe_code 19 33 = some (.sipush 599, []) := by decide +kernel
theorem kc_19_36 : xe_code 19 36 = some (.if_icmp .le 10, [46]) := by decide +kernel
theorem kc_19_39 : xe_code 19 39 = some (.aload_n 0, []) := by decide +kernel
theorem kc_19_40 : xe_code 19 40 = some (.bipush (-6), []) := by decide +kernel
theorem kc_19_42 : xe_code 19 42 = some (.invokevirtual 201, [18, 1, 1176, 12]) := by decide +kernel
theorem kc_19_45 : xe_code 19 45 = some (.ireturn, []) := by decide +kernel
theorem kc_19_46 : xe_code 19 46 = some (.iload_n 2, []) := by decide +kernel
theorem kc_19_47 : xe_code 19 47 = some (.ifCond .ne 11, [58]) := by decide +kernel
theorem kc_19_50 : xe_code 19 50 = some (.aload_n 0, []) := by decide +kernel
theorem kc_19_51 : xe_code 19 51 = some (.iload_n 1, []) := by decide +kernel
theorem kc_19_52 : xe_code 19 52 = some (.invokevirtual 204, [20, 1, 1185, 12]) := by decide +kernel
theorem kc_19_55 : xe_code 19 55 = some (.goto 8, [63]) := by decide +kernel
theorem kc_19_58 : xe_code 19 58 = some (.aload_n 0, []) := by decide +kernel
theorem kc_19_59 : xe_code 19 59 = some (.iload_n 1, []) := by decide +kernel
theorem kc_19_60 : xe_code 19 60 = some (.invokevirtual 207, [21, 1, 1189, 12]) := by decide +kernel
theorem kc_19_63 : xe_code 19 63 = some (.ireturn, []) := by decide +kernel
theorem kc_20_0 : xe_code 20 0 = some (.iload_n 1, []) := by decide +kernel
theorem kc_20_1 : xe_code 20 1 = some (.sipush 599, []) := by decide +kernel
theorem kc_20_4 : xe_code 20 4 = some (.if_icmp .ge 7, [11]) := by decide +kernel
theorem kc_20_7 : xe_code 20 7 = some (.iload_n 1, []) := by decide +kernel
theorem kc_20_8 : xe_code 20 8 = some (.goto 6, [14]) := by decide +kernel
theorem kc_20_11 : xe_code 20 11 = some (.sipush 599, []) := by decide +kernel
theorem kc_20_14 : xe_code 20 14 = some (.istore_n 2, []) := by decide +kernel
theorem kc_20_15 : xe_code 20 15 = some (.iload_n 2, []) := by decide +kernel
theorem kc_20_16 : xe_code 20 16 = some (.ifCond .lt 27, [43]) := by decide +kernel
theorem kc_20_19 : xe_code 20 19 = some (.aload_n 0, []) := by decide +kernel
theorem kc_20_20 : xe_code 20 20 = some (.getfield 31, [12, 9, 956]) := by decide +kernel
theorem kc_20_23 : xe_code 20 23 = some (.iload_n 2, []) := by decide +kernel
theorem kc_20_24 : xe_code 20 24 = some (.iaload, []) := by decide +kernel
theorem kc_20_25 : xe_code 20 25 = some (.bipush 99, []) := by decide +kernel
theorem kc_20_27 : xe_code 20 27 = some (.if_icmp .eq 10, [37]) := by decide +kernel
theorem kc_20_30 : xe_code 20 30 = some (.aload_n 0, []) := by decide +kernel
theorem kc_20_31 : xe_code 20 31 = some (.getfield 31, [12, 9, 956]) := by decide +kernel
theorem kc_20_34 : xe_code 20 34 = some (.iload_n 2, []) := by decide +kernel
theorem kc_20_35 : xe_code 20 35 = some (.iaload, []) := by decide +kernel
theorem kc_20_36 : xe_code 20 36 = some (.ireturn, []) := by decide +kernel
theorem kc_20_37 : xe_code 20 37 = some (.iinc 2 (-1), []) := by decide +kernel
theorem kc_20_40 : xe_code 20 40 = some (.goto (-25), [15]) := by decide +kernel
theorem kc_20_43 : xe_code 20 43 = some (.iconst 5, []) := by decide +kernel
theorem kc_20_44 : xe_code 20 44 = some (.ireturn, []) := by decide +kernel
theorem kc_21_0 : xe_code 21 0 = some (.iload_n 1, []) := by decide +kernel
theorem kc_21_1 : xe_code 21 1 = some (.sipush 599, []) := by decide +kernel
theorem kc_21_4 : xe_code 21 4 = some (.if_icmp .ge 7, [11]) := by decide +kernel
theorem kc_21_7 : xe_code 21 7 = some (.iload_n 1, []) := by decide +kernel
theorem kc_21_8 : xe_code 21 8 = some (.goto 6, [14]) := by decide +kernel
theorem kc_21_11 : xe_code 21 11 = some (.sipush 599, []) := by decide +kernel
theorem kc_21_14 : xe_code 21 14 = some (.istore_n 2, []) := by decide +kernel
theorem kc_21_15 : xe_code 21 15 = some (.iload_n 2, []) := by decide +kernel
theorem kc_21_16 : xe_code 21 16 = some (.ifCond .lt 27, [43]) := by decide +kernel
theorem kc_21_19 : xe_code 21 19 = some (.aload_n 0, []) := by decide +kernel
theorem kc_21_20 : xe_code 21 20 = some (.getfield 34, [12, 10, 957]) := by decide +kernel
theorem kc_21_23 : xe_code 21 23 = some (.iload_n 2, []) := by decide +kernel
theorem kc_21_24 : xe_code 21 24 = some (.iaload, []) := by decide +kernel
theorem kc_21_25 : xe_code 21 25 = some (.bipush 99, []) := by decide +kernel
theorem kc_21_27 : xe_code 21 27 = some (.if_icmp .eq 10, [37]) := by decide +kernel
theorem kc_21_30 : xe_code 21 30 = some (.aload_n 0, []) := by decide +kernel
theorem kc_21_31 : xe_code 21 31 = some (.getfield 34, [12, 10, 957]) := by decide +kernel
theorem kc_21_34 : xe_code 21 34 = some (.iload_n 2, []) := by decide +kernel
theorem kc_21_35 : xe_code 21 35 = some (.iaload, []) := by decide +kernel
theorem kc_21_36 : xe_code 21 36 = some (.ireturn, []) := by decide +kernel
theorem kc_21_37 : xe_code 21 37 = some (.iinc 2 (-1), []) := by decide +kernel
theorem kc_21_40 : xe_code 21 40 = some (.goto (-25), [15]) := by decide +kernel
theorem kc_21_43 : xe_code 21 43 = some (.iconst 0, []) := by decide +kernel
theorem kc_21_44 : xe_code 21 44 = some (.ireturn, []) := by decide +kernel
theorem kc_22_0 : xe_code 22 0 = some (.aload_n 0, []) := by decide +kernel
theorem kc_22_1 : xe_code 22 1 = some (.iconst 0, []) := by decide +kernel
theorem kc_22_2 : xe_code 22 2 = some (.putfield 169, [12, 0, 947]) := by decide +kernel
theorem kc_22_5 : xe_code 22 5 = some (.iload_n 1, []) := by decide +kernel
theorem kc_22_6 : xe_code 22 6 = some (.bipush (-20), []) := by decide +kernel
theorem kc_22_8 : xe_code 22 8 = some (.if_icmp .ge 12, [20]) := by decide +kernel
theorem kc_22_11 : xe_code 22 11 = some (.aload_n 0, []) := by decide +kernel
theorem kc_22_12 : xe_code 22 12 = some (.bipush (-4), []) := by decide +kernel
theorem kc_22_14 : xe_code 22 14 = some (.invokevirtual 188, [13, 1, 1155, 12]) := by decide +kernel
theorem kc_22_17 : xe_code 22 17 = some (.goto 22, [39]) := by decide +kernel
theorem kc_22_20 : xe_code 22 20 = some (.iload_n 1, []) := by decide +kernel
theorem kc_22_21 : xe_code 22 21 = some (.bipush 30, []) := by decide +kernel
theorem kc_22_23 : xe_code 22 23 = some (.if_icmp .le 12, [35]) := by decide +kernel
theorem kc_22_26 : xe_code 22 26 = some (.aload_n 0, []) := by decide +kernel
theorem kc_22_27 : xe_code 22 27 = some (.bipush (-6), []) := by decide +kernel
theorem kc_22_29 : xe_code 22 29 = some (.invokevirtual 188, [13, 1, 1155, 12]) := by decide +kernel
theorem kc_22_32 : xe_code 22 32 = some (.goto 7, [39]) := by decide +kernel
theorem kc_22_35 : xe_code 22 35 = some (.iload_n 1, []) := by decide +kernel
theorem kc_22_36 : xe_code 22 36 = some (.invokestatic 210, [23, 1, 1197, 12]) := by decide +kernel
theorem kc_22_39 : xe_code 22 39 = some (.ireturn, []) := by decide +kernel
theorem kc_23_0 : xe_code 23 0 = some (.iload_n 0, []) := by decide +kernel
theorem kc_23_1 : xe_code 23 1 = some (.ifCond .lt 16, [17]) := by decide +kernel
theorem kc_23_4 : xe_code 23 4 = some (.iconst 5, []) := by decide +kernel
theorem kc_23_5 : xe_code 23 5 = some (.iload_n 0, []) := by decide +kernel
theorem kc_23_6 : xe_code 23 6 = some (.iconst 2, []) := by decide +kernel
theorem kc_23_7 : xe_code 23 7 = some (.idiv, []) := by decide +kernel
theorem kc_23_8 : xe_code 23 8 = some (.iadd, []) := by decide +kernel
theorem kc_23_9 : xe_code 23 9 = some (.iload_n 0, []) := by decide +kernel
theorem kc_23_10 : xe_code 23 10 = some (.iload_n 0, []) := by decide +kernel
theorem kc_23_11 : xe_code 23 11 = some (.imul, []) := by decide +kernel
theorem kc_23_12 : xe_code 23 12 = some (.bipush 40, []) := by decide +kernel
theorem kc_23_14 : xe_code 23 14 = some (.idiv, []) := by decide +kernel
theorem kc_23_15 : xe_code 23 15 = some (.iadd, []) := by decide +kernel
theorem kc_23_16 : xe_code 23 16 = some (.ireturn, []) := by decide +kernel
theorem kc_23_17 : xe_code 23 17 = some (.iconst 5, []) := by decide +kernel
theorem kc_23_18 : xe_code 23 18 = some (.iload_n 0, []) := by decide +kernel
theorem kc_23_19 : xe_code 23 19 = some (.ineg, []) := by decide +kernel
theorem kc_23_20 : xe_code 23 20 = some (.iconst 5, []) := by decide +kernel
theorem kc_23_21 : xe_code 23 21 = some (.idiv, []) := by decide +kernel
theorem kc_23_22 : xe_code 23 22 = some (.isub, []) := by decide +kernel
theorem kc_23_23 : xe_code 23 23 = some (.istore_n 1, []) := by decide +kernel
theorem kc_23_24 : xe_code 23 24 = some (.iload_n 1, []) := by decide +kernel
theorem kc_23_25 : xe_code 23 25 = some (.iconst 1, []) := by decide +kernel
theorem kc_23_26 : xe_code 23 26 = some (.if_icmp .ge 7, [33]) := by decide +kernel
theorem kc_23_29 : xe_code 23 29 = some (.iconst 1, []) := by decide +kernel
theorem kc_23_30 : xe_code 23 30 = some (.goto 4, [34]) := by decide +kernel
theorem kc_23_33 : xe_code 23 33 = some (.iload_n 1, []) := by decide +kernel
theorem kc_23_34 : xe_code 23 34 = some (.ireturn, []) := by decide +kernel
theorem kc_24_0 : xe_code 24 0 = some (.aload_n 0, []) := by decide +kernel
theorem kc_24_1 : xe_code 24 1 = some (.iconst 0, []) := by decide +kernel
theorem kc_24_2 : xe_code 24 2 = some (.putfield 169, [12, 0, 947]) := by decide +kernel
theorem kc_24_5 : xe_code 24 5 = some (.iload_n 1, []) := by decide +kernel
theorem kc_24_6 : xe_code 24 6 = some (.invokestatic 177, [25, 1, 1204, 12]) := by decide +kernel
theorem kc_24_9 : xe_code 24 9 = some (.ifCond .eq 10, [19]) := by decide +kernel
theorem kc_24_12 : xe_code 24 12 = some (.iload_n 2, []) := by decide +kernel
theorem kc_24_13 : xe_code 24 13 = some (.invokestatic 185, [11, 1, 1149, 12]) := by decide +kernel
theorem kc_24_16 : xe_code 24 16 = some (.ifCond .ne 9, [25]) := by decide +kernel
theorem kc_24_19 : xe_code 24 19 = some (.aload_n 0, []) := by decide +kernel
theorem kc_24_20 : xe_code 24 20 = some (.iconst (-1), []) := by decide +kernel
theorem kc_24_21 : xe_code 24 21 = some (.invokevirtual 188, [13, 1, 1155, 12]) := by decide +kernel
theorem kc_24_24 : xe_code 24 24 = some (.ireturn, []) := by decide +kernel
theorem kc_24_25 : xe_code 24 25 = some (.iload_n 3, []) := by decide +kernel
theorem kc_24_26 : xe_code 24 26 = some (.ifCond .ge 10, [36]) := by decide +kernel
theorem kc_24_29 : xe_code 24 29 = some (.aload_n 0, []) := by decide +kernel
theorem kc_24_30 : xe_code 24 30 = some (.bipush (-4), []) := by decide +kernel
theorem kc_24_32 : xe_code 24 32 = some (.invokevirtual 188, [13, 1, 1155, 12]) := by decide +kernel
theorem kc_24_35 : xe_code 24 35 = some (.ireturn, []) := by decide +kernel
theorem kc_24_36 : xe_code 24 36 = some (.iload_n 3, []) := by decide +kernel
theorem kc_24_37 : xe_code 24 37 = some (.bipush 100, []) := by decide +kernel
theorem kc_24_39 : xe_code 24 39 = some (.if_icmp .le 10, [49]) := by decide +kernel
theorem kc_24_42 : xe_code 24 42 = some (.aload_n 0, []) := by decide +kernel
theorem kc_24_43 : xe_code 24 43 = some (.bipush (-6), []) := by decide +kernel
theorem kc_24_45 : xe_code 24 45 = some (.invokevirtual 188, [13, 1, 1155, 12]) := by decide +kernel
theorem kc_24_48 : xe_code 24 48 = some (.ireturn, []) := by decide +kernel
theorem kc_24_49 : xe_code 24 49 = some (.aload_n 0, []) := by decide +kernel
theorem kc_24_50 : xe_code 24 50 = some (.getfield 37, [12, 11, 958]) := by decide +kernel
theorem kc_24_53 : xe_code 24 53 = some (.iload_n 1, []) := by decide +kernel
theorem kc_24_54 : xe_code 24 54 = some (.iaload, []) := by decide +kernel
theorem kc_24_55 : xe_code 24 55 = some (.ifCond .lt 7, [62]) := by decide +kernel
theorem kc_24_58 : xe_code 24 58 = some (.iconst 1, []) := by decide +kernel
theorem kc_24_59 : xe_code 24 59 = some (.goto 4, [63]) := by decide +kernel
theorem kc_24_62 : xe_code 24 62 = some (.iconst 0, []) := by decide +kernel
theorem kc_24_63 : xe_code 24 63 = some (.istore 5, []) := by decide +kernel
theorem kc_24_65 : xe_code 24 65 = some (.aload_n 0, []) := by decide +kernel
theorem kc_24_66 : xe_code 24 66 = some (.getfield 37, [12, 11, 958]) := by decide +kernel
theorem kc_24_69 : xe_code 24 69 = some (.iload_n 1, []) := by decide +kernel
theorem kc_24_70 : xe_code 24 70 = some (.iload_n 2, []) := by decide +kernel
theorem kc_24_71 : xe_code 24 71 = some (.iastore, []) := by decide +kernel
theorem kc_24_72 : xe_code 24 72 = some (.aload_n 0, []) := by decide +kernel
theorem kc_24_73 : xe_code 24 73 = some (.getfield 40, [12, 12, 959]) := by decide +kernel
theorem kc_24_76 : xe_code 24 76 = some (.iload_n 1, []) := by decide +kernel
theorem kc_24_77 : xe_code 24 77 = some (.iload_n 3, []) := by decide +kernel
theorem kc_24_78 : xe_code 24 78 = some (.iastore, []) := by decide +kernel
theorem kc_24_79 : xe_code 24 79 = some (.aload_n 0, []) := by decide +kernel
theorem kc_24_80 : xe_code 24 80 = some (.getfield 43, [12, 13, 960]) := by decide +kernel
theorem kc_24_83 : xe_code 24 83 = some (.iload_n 1, []) := by decide +kernel
theorem kc_24_84 : xe_code 24 84 = some (.iload 4, []) := by decide +kernel
theorem kc_24_86 : xe_code 24 86 = some (.bastore, []) := by decide +kernel
theorem kc_24_87 : xe_code 24 87 = some (.aload_n 0, []) := by decide +kernel
theorem kc_24_88 : xe_code 24 88 = some (.iconst 0, []) := by decide +kernel
theorem kc_24_89 : xe_code 24 89 = some (.putfield 181, [12, 41, 988]) := by decide +kernel
theorem kc_24_92 : xe_code 24 92 = some (.iload 5, []) := by decide +kernel
theorem kc_24_94 : xe_code 24 94 = some (.ifCond .eq 7, [101]) := by decide +kernel
theorem kc_24_97 : xe_code 24 97 = some (.iconst 0, []) := by decide +kernel
theorem kc_24_98 : xe_code 24 98 = some (.goto 4, [102]) := by decide +kernel
theorem kc_24_101 : xe_code 24 101 = some (.iconst 1, []) := by decide +kernel
theorem kc_24_102 : xe_code 24 102 = some (.ireturn, []) := by decide +kernel
theorem kc_25_0 : xe_code 25 0 = some (.iload_n 0, []) := by decide +kernel
theorem kc_25_1 : xe_code 25 1 = some (.iconst 0, []) := by decide +kernel
theorem kc_25_2 : xe_code 25 2 = some (.bipush 11, []) := by decide +kernel
theorem kc_25_4 : xe_code 25 4 = some (.invokestatic 173, [12, 3, 1152, 12]) := by decide +kernel
theorem kc_25_7 : xe_code 25 7 = some (.ireturn, []) := by decide +kernel
theorem kc_26_0 : xe_code 26 0 = some (.aload_n 0, []) := by decide +kernel
theorem kc_26_1 : xe_code 26 1 = some (.iconst 0, []) := by decide +kernel
theorem kc_26_2 : xe_code 26 2 = some (.putfield 169, [12, 0, 947]) := by decide +kernel
theorem kc_26_5 : xe_code 26 5 = some (.iload_n 1, []) := by decide +kernel
theorem kc_26_6 : xe_code 26 6 = some (.invokestatic 177, [25, 1, 1204, 12]) := by decide +kernel
theorem kc_26_9 : xe_code 26 9 = some (.ifCond .ne 9, [18]) := by decide +kernel
theorem kc_26_12 : xe_code 26 12 = some (.aload_n 0, []) := by decide +kernel
theorem kc_26_13 : xe_code 26 13 = some (.iconst (-1), []) := by decide +kernel
theorem kc_26_14 : xe_code 26 14 = some (.invokevirtual 188, [13, 1, 1155, 12]) := by decide +kernel
theorem kc_26_17 : xe_code 26 17 = some (.ireturn, []) := by decide +kernel
theorem kc_26_18 : xe_code 26 18 = some (.iload_n 2, []) := by decide +kernel
theorem kc_26_19 : xe_code 26 19 = some (.iconst 0, []) := by decide +kernel
theorem kc_26_20 : xe_code 26 20 = some (.iconst 5, []) := by decide +kernel
theorem kc_26_21 : xe_code 26 21 = some (.invokestatic 173, [12, 3, 1152, 12]) := by decide +kernel
theorem kc_26_24 : xe_code 26 24 = some (.ifCond .ne 10, [34]) := by decide +kernel
theorem kc_26_27 : xe_code 26 27 = some (.aload_n 0, []) := by decide +kernel
theorem kc_26_28 : xe_code 26 28 = some (.bipush (-2), []) := by decide +kernel
theorem kc_26_30 : xe_code 26 30 = some (.invokevirtual 188, [13, 1, 1155, 12]) := by decide +kernel
theorem kc_26_33 : xe_code 26 33 = some (.ireturn, []) := by decide +kernel
theorem kc_26_34 : xe_code 26 34 = some (.iload_n 2, []) := by decide +kernel
theorem kc_26_35 : xe_code 26 35 = some (.tableswitch 76 0 4 #[33, 40, 47, 62, 69], [111, 68, 75, 82, 97, 104]) := by decide +kernel
theorem kc_26_68 : xe_code 26 68 = some (.aload_n 0, []) := by decide +kernel
theorem kc_26_69 : xe_code 26 69 = some (.getfield 37, [12, 11, 958]) := by decide +kernel
theorem kc_26_72 : xe_code 26 72 = some (.iload_n 1, []) := by decide +kernel
theorem kc_26_73 : xe_code 26 73 = some (.iaload, []) := by decide +kernel
theorem kc_26_74 : xe_code 26 74 = some (.ireturn, []) := by decide +kernel
theorem kc_26_75 : xe_code 26 75 = some (.aload_n 0, []) := by decide +kernel
theorem kc_26_76 : xe_code 26 76 = some (.getfield 40, [12, 12, 959]) := by decide +kernel
theorem kc_26_79 : xe_code 26 79 = some (.iload_n 1, []) := by decide +kernel
theorem kc_26_80 : xe_code 26 80 = some (.iaload, []) := by decide +kernel
theorem kc_26_81 : xe_code 26 81 = some (.ireturn, []) := by decide +kernel
theorem kc_26_82 : xe_code 26 82 = some (.aload_n 0, []) := by decide +kernel
theorem kc_26_83 : xe_code 26 83 = some (.getfield 43, [12, 13, 960]) := by decide +kernel
theorem kc_26_86 : xe_code 26 86 = some (.iload_n 1, []) := by decide +kernel
theorem kc_26_87 : xe_code 26 87 = some (.baload, []) := by decide +kernel
theorem kc_26_88 : xe_code 26 88 = some (.ifCond .eq 7, [95]) := by decide +kernel
theorem kc_26_91 : xe_code 26 91 = some (.iconst 1, []) := by decide +kernel
theorem kc_26_92 : xe_code 26 92 = some (.goto 4, [96]) := by decide +kernel
theorem kc_26_95 : xe_code 26 95 = some (.iconst 0, []) := by decide +kernel
theorem kc_26_96 : xe_code 26 96 = some (.ireturn, []) := by decide +kernel
theorem kc_26_97 : xe_code 26 97 = some (.aload_n 0, []) := by decide +kernel
theorem kc_26_98 : xe_code 26 98 = some (.getfield 47, [12, 14, 961]) := by decide +kernel
theorem kc_26_101 : xe_code 26 101 = some (.iload_n 1, []) := by decide +kernel
theorem kc_26_102 : xe_code 26 102 = some (.iaload, []) := by decide +kernel
theorem kc_26_103 : xe_code 26 103 = some (.ireturn, []) := by decide +kernel
theorem kc_26_104 : xe_code 26 104 = some (.aload_n 0, []) := by decide +kernel
theorem kc_26_105 : xe_code 26 105 = some (.getfield 50, [12, 15, 962]) := by decide +kernel
theorem kc_26_108 : xe_code 26 108 = some (.iload_n 1, []) := by decide +kernel
theorem kc_26_109 : xe_code 26 109 = some (.iaload, []) := by decide +kernel
theorem kc_26_110 : xe_code 26 110 = some (.ireturn, []) := by decide +kernel
theorem kc_26_111 : xe_code 26 111 = some (.aload_n 0, []) := by decide +kernel
theorem kc_26_112 : xe_code 26 112 = some (.getfield 37, [12, 11, 958]) := by decide +kernel
theorem kc_26_115 : xe_code 26 115 = some (.iload_n 1, []) := by decide +kernel
theorem kc_26_116 : xe_code 26 116 = some (.iaload, []) := by decide +kernel
theorem kc_26_117 : xe_code 26 117 = some (.ifCond .ge 7, [124]) := by decide +kernel
theorem kc_26_120 : xe_code 26 120 = some (.iconst 0, []) := by decide +kernel
theorem kc_26_121 : xe_code 26 121 = some (.goto 12, [133]) := by decide +kernel
theorem kc_26_124 : xe_code 26 124 = some (.aload_n 0, []) := by decide +kernel
theorem kc_26_125 : xe_code 26 125 = some (.iload_n 1, []) := by decide +kernel
theorem kc_26_126 : xe_code 26 126 = some (.aload_n 0, []) := by decide +kernel
theorem kc_26_127 : xe_code 26 127 = some (.getfield 213, [12, 1, 948]) := by decide +kernel
theorem kc_26_130 : xe_code 26 130 = some (.invokevirtual 216, [27, 2, 1211, 12]) := by decide +kernel
theorem kc_26_133 : xe_code 26 133 = some (.ireturn, []) := by decide +kernel
theorem kc_27_0 : xe_code 27 0 = some (.aload_n 0, []) := by decide +kernel
theorem kc_27_1 : xe_code 27 1 = some (.getfield 13, [12, 3, 950]) := by decide +kernel
theorem kc_27_4 : xe_code 27 4 = some (.aload_n 0, []) := by decide +kernel
theorem kc_27_5 : xe_code 27 5 = some (.getfield 37, [12, 11, 958]) := by decide +kernel
theorem kc_27_8 : xe_code 27 8 = some (.iload_n 1, []) := by decide +kernel
theorem kc_27_9 : xe_code 27 9 = some (.iaload, []) := by decide +kernel
theorem kc_27_10 : xe_code 27 10 = some (.iaload, []) := by decide +kernel
theorem kc_27_11 : xe_code 27 11 = some (.aload_n 0, []) := by decide +kernel
theorem kc_27_12 : xe_code 27 12 = some (.iload_n 2, []) := by decide +kernel
theorem kc_27_13 : xe_code 27 13 = some (.invokevirtual 204, [20, 1, 1185, 12]) := by decide +kernel
theorem kc_27_16 : xe_code 27 16 = some (.isub, []) := by decide +kernel
theorem kc_27_17 : xe_code 27 17 = some (.aload_n 0, []) := by decide +kernel
theorem kc_27_18 : xe_code 27 18 = some (.getfield 40, [12, 12, 959]) := by decide +kernel
theorem kc_27_21 : xe_code 27 21 = some (.iload_n 1, []) := by decide +kernel
theorem kc_27_22 : xe_code 27 22 = some (.iaload, []) := by decide +kernel
theorem kc_27_23 : xe_code 27 23 = some (.imul, []) := by decide +kernel
theorem kc_27_24 : xe_code 27 24 = some (.bipush 100, []) := by decide +kernel
theorem kc_27_26 : xe_code 27 26 = some (.idiv, []) := by decide +kernel
theorem kc_27_27 : xe_code 27 27 = some (.istore_n 3, []) := by decide +kernel
theorem kc_27_28 : xe_code 27 28 = some (.iload_n 3, []) := by decide +kernel
theorem kc_27_29 : xe_code 27 29 = some (.ifCond .ge 7, [36]) := by decide +kernel
theorem kc_27_32 : xe_code 27 32 = some (.iconst 0, []) := by decide +kernel
theorem kc_27_33 : xe_code 27 33 = some (.goto 4, [37]) := by decide +kernel
theorem kc_27_36 : xe_code 27 36 = some (.iload_n 3, []) := by decide +kernel
theorem kc_27_37 : xe_code 27 37 = some (.ireturn, []) := by decide +kernel
theorem kc_28_0 : xe_code 28 0 = some (.aload_n 0, []) := by decide +kernel
theorem kc_28_1 : xe_code 28 1 = some (.iconst 0, []) := by decide +kernel
theorem kc_28_2 : xe_code 28 2 = some (.putfield 169, [12, 0, 947]) := by decide +kernel
theorem kc_28_5 : xe_code 28 5 = some (.iload_n 1, []) := by decide +kernel
theorem kc_28_6 : xe_code 28 6 = some (.iconst 1, []) := by decide +kernel
theorem kc_28_7 : xe_code 28 7 = some (.if_icmp .ge 10, [17]) := by decide +kernel
theorem kc_28_10 : xe_code 28 10 = some (.aload_n 0, []) := by decide +kernel
theorem kc_28_11 : xe_code 28 11 = some (.bipush (-4), []) := by decide +kernel
theorem kc_28_13 : xe_code 28 13 = some (.invokevirtual 188, [13, 1, 1155, 12]) := by decide +kernel
theorem kc_28_16 : xe_code 28 16 = some (.ireturn, []) := by decide +kernel
theorem kc_28_17 : xe_code 28 17 = some (.iload_n 1, []) := by decide +kernel
theorem kc_28_18 : xe_code 28 18 = some (.bipush 50, []) := by decide +kernel
theorem kc_28_20 : xe_code 28 20 = some (.if_icmp .le 10, [30]) := by decide +kernel
theorem kc_28_23 : xe_code 28 23 = some (.aload_n 0, []) := by decide +kernel
theorem kc_28_24 : xe_code 28 24 = some (.bipush (-6), []) := by decide +kernel
theorem kc_28_26 : xe_code 28 26 = some (.invokevirtual 188, [13, 1, 1155, 12]) := by decide +kernel
theorem kc_28_29 : xe_code 28 29 = some (.ireturn, []) := by decide +kernel
theorem kc_28_30 : xe_code 28 30 = some (.aload_n 0, []) := by decide +kernel
theorem kc_28_31 : xe_code 28 31 = some (.getfield 53, [12, 16, 963]) := by decide +kernel
theorem kc_28_34 : xe_code 28 34 = some (.istore_n 2, []) := by decide +kernel
theorem kc_28_35 : xe_code 28 35 = some (.aload_n 0, []) := by decide +kernel
theorem kc_28_36 : xe_code 28 36 = some (.iload_n 1, []) := by decide +kernel
theorem kc_28_37 : xe_code 28 37 = some (.putfield 53, [12, 16, 963]) := by decide +kernel
theorem kc_28_40 : xe_code 28 40 = some (.aload_n 0, []) := by decide +kernel
theorem kc_28_41 : xe_code 28 41 = some (.iconst 0, []) := by decide +kernel
theorem kc_28_42 : xe_code 28 42 = some (.putfield 181, [12, 41, 988]) := by decide +kernel
theorem kc_28_45 : xe_code 28 45 = some (.iload_n 2, []) := by decide +kernel
theorem kc_28_46 : xe_code 28 46 = some (.ireturn, []) := by decide +kernel
theorem kc_29_0 : xe_code 29 0 = some (.aload_n 0, []) := by decide +kernel
theorem kc_29_1 : xe_code 29 1 = some (.iconst 0, []) := by decide +kernel
theorem kc_29_2 : xe_code 29 2 = some (.putfield 169, [12, 0, 947]) := by decide +kernel
theorem kc_29_5 : xe_code 29 5 = some (.iload_n 1, []) := by decide +kernel
theorem kc_29_6 : xe_code 29 6 = some (.invokestatic 177, [25, 1, 1204, 12]) := by decide +kernel
theorem kc_29_9 : xe_code 29 9 = some (.ifCond .ne 9, [18]) := by decide +kernel
theorem kc_29_12 : xe_code 29 12 = some (.aload_n 0, []) := by decide +kernel
theorem kc_29_13 : xe_code 29 13 = some (.iconst (-1), []) := by decide +kernel
theorem kc_29_14 : xe_code 29 14 = some (.invokevirtual 188, [13, 1, 1155, 12]) := by decide +kernel
theorem kc_29_17 : xe_code 29 17 = some (.ireturn, []) := by decide +kernel
theorem kc_29_18 : xe_code 29 18 = some (.aload_n 0, []) := by decide +kernel
theorem kc_29_19 : xe_code 29 19 = some (.getfield 50, [12, 15, 962]) := by decide +kernel
theorem kc_29_22 : xe_code 29 22 = some (.iload_n 1, []) := by decide +kernel
theorem kc_29_23 : xe_code 29 23 = some (.iaload, []) := by decide +kernel
theorem kc_29_24 : xe_code 29 24 = some (.istore_n 2, []) := by decide +kernel
theorem kc_29_25 : xe_code 29 25 = some (.aload_n 0, []) := by decide +kernel
theorem kc_29_26 : xe_code 29 26 = some (.getfield 50, [12, 15, 962]) := by decide +kernel
theorem kc_29_29 : xe_code 29 29 = some (.iload_n 1, []) := by decide +kernel
theorem kc_29_30 : xe_code 29 30 = some (.iconst 0, []) := by decide +kernel
theorem kc_29_31 : xe_code 29 31 = some (.iastore, []) := by decide +kernel
theorem kc_29_32 : xe_code 29 32 = some (.iload_n 2, []) := by decide +kernel
theorem kc_29_33 : xe_code 29 33 = some (.ireturn, []) := by decide +kernel
theorem kc_30_0 : xe_code 30 0 = some (.aload_n 0, []) := by decide +kernel
theorem kc_30_1 : xe_code 30 1 = some (.iconst 0, []) := by decide +kernel
theorem kc_30_2 : xe_code 30 2 = some (.putfield 169, [12, 0, 947]) := by decide +kernel
theorem kc_30_5 : xe_code 30 5 = some (.iload_n 1, []) := by decide +kernel
theorem kc_30_6 : xe_code 30 6 = some (.invokestatic 185, [11, 1, 1149, 12]) := by decide +kernel
theorem kc_30_9 : xe_code 30 9 = some (.ifCond .eq 12, [21]) := by decide +kernel
theorem kc_30_12 : xe_code 30 12 = some (.aload_n 0, []) := by decide +kernel
theorem kc_30_13 : xe_code 30 13 = some (.getfield 25, [12, 7, 954]) := by decide +kernel
theorem kc_30_16 : xe_code 30 16 = some (.iload_n 1, []) := by decide +kernel
theorem kc_30_17 : xe_code 30 17 = some (.iaload, []) := by decide +kernel
theorem kc_30_18 : xe_code 30 18 = some (.goto 8, [26]) := by decide +kernel
theorem kc_30_21 : xe_code 30 21 = some (.aload_n 0, []) := by decide +kernel
theorem kc_30_22 : xe_code 30 22 = some (.iconst (-1), []) := by decide +kernel
theorem kc_30_23 : xe_code 30 23 = some (.invokevirtual 188, [13, 1, 1155, 12]) := by decide +kernel
theorem kc_30_26 : xe_code 30 26 = some (.ireturn, []) := by decide +kernel
theorem kc_31_0 : xe_code 31 0 = some (.aload_n 0, []) := by decide +kernel
theorem kc_31_1 : xe_code 31 1 = some (.iconst 0, []) := by decide +kernel
theorem kc_31_2 : xe_code 31 2 = some (.putfield 169, [12, 0, 947]) := by decide +kernel
theorem kc_31_5 : xe_code 31 5 = some (.aload_n 0, []) := by decide +kernel
theorem kc_31_6 : xe_code 31 6 = some (.iload_n 1, []) := by decide +kernel
theorem kc_31_7 : xe_code 31 7 = some (.invokevirtual 219, [32, 1, 1231, 12]) := by decide +kernel
theorem kc_31_10 : xe_code 31 10 = some (.ifCond .ne 9, [19]) := by decide +kernel
theorem kc_31_13 : xe_code 31 13 = some (.aload_n 0, []) := by decide +kernel
theorem kc_31_14 : xe_code 31 14 = some (.iconst (-1), []) := by decide +kernel
theorem kc_31_15 : xe_code 31 15 = some (.invokevirtual 188, [13, 1, 1155, 12]) := by decide +kernel
theorem kc_31_18 : xe_code 31 18 = some (.ireturn, []) := by decide +kernel
theorem kc_31_19 : xe_code 31 19 = some (.iload_n 2, []) := by decide +kernel
theorem kc_31_20 : xe_code 31 20 = some (.aload_n 0, []) := by decide +kernel
theorem kc_31_21 : xe_code 31 21 = some (.getfield 213, [12, 1, 948]) := by decide +kernel
theorem kc_31_24 : xe_code 31 24 = some (.if_icmp .gt 25, [49]) := by decide +kernel
theorem kc_31_27 : xe_code 31 27 = some (.aload_n 0, []) := by decide +kernel
theorem kc_31_28 : xe_code 31 28 = some (.getfield 222, [12, 18, 965]) := by decide +kernel
theorem kc_31_31 : xe_code 31 31 = some (.ifCond .le 25, [56]) := by decide +kernel
theorem kc_31_34 : xe_code 31 34 = some (.iload_n 2, []) := by decide +kernel
theorem kc_31_35 : xe_code 31 35 = some (.aload_n 0, []) := by decide +kernel
theorem kc_31_36 : xe_code 31 36 = some (.getfield 63, [12, 20, 967]) := by decide +kernel
theorem kc_31_39 : xe_code 31 39 = some (.aload_n 0, []) := by decide +kernel
theorem kc_31_40 : xe_code 31 40 = some (.getfield 222, [12, 18, 965]) := by decide +kernel
theorem kc_31_43 : xe_code 31 43 = some (.iconst 1, []) := by decide +kernel
theorem kc_31_44 : xe_code 31 44 = some (.isub, []) := by decide +kernel
theorem kc_31_45 : xe_code 31 45 = some (.iaload, []) := by decide +kernel
theorem kc_31_46 : xe_code 31 46 = some (.if_icmp .ge 10, [56]) := by decide +kernel
theorem kc_31_49 : xe_code 31 49 = some (.aload_n 0, []) := by decide +kernel
theorem kc_31_50 : xe_code 31 50 = some (.bipush (-3), []) := by decide +kernel
theorem kc_31_52 : xe_code 31 52 = some (.invokevirtual 188, [13, 1, 1155, 12]) := by decide +kernel
theorem kc_31_55 : xe_code 31 55 = some (.ireturn, []) := by decide +kernel
theorem kc_31_56 : xe_code 31 56 = some (.iload_n 2, []) := by decide +kernel
theorem kc_31_57 : xe_code 31 57 = some (.ifCond .lt 12, [69]) := by decide +kernel
theorem kc_31_60 : xe_code 31 60 = some (.iload_n 3, []) := by decide +kernel
theorem kc_31_61 : xe_code 31 61 = some (.ifCond .lt 8, [69]) := by decide +kernel
theorem kc_31_64 : xe_code 31 64 = some (.iload 4, []) := by decide +kernel
theorem kc_31_66 : xe_code 31 66 = some (.ifCond .ge 10, [76]) := by decide +kernel
theorem kc_31_69 : xe_code 31 69 = some (.aload_n 0, []) := by decide +kernel
theorem kc_31_70 : xe_code 31 70 = some (.bipush (-4), []) := by decide +kernel
theorem kc_31_72 : xe_code 31 72 = some (.invokevirtual 188, [13, 1, 1155, 12]) := by decide +kernel
theorem kc_31_75 : xe_code 31 75 = some (.ireturn, []) := by decide +kernel
theorem kc_31_76 : xe_code 31 76 = some (.iload_n 3, []) := by decide +kernel
theorem kc_31_77 : xe_code 31 77 = some (.ldc 192, [99999, 1159]) := by decide +kernel
theorem kc_31_79 : xe_code 31 79 = some (.if_icmp .gt 20, [99]) := by decide +kernel
theorem kc_31_82 : xe_code 31 82 = some (.iload 4, []) := by decide +kernel
theorem kc_31_84 : xe_code 31 84 = some (.sipush 999, []) := by decide +kernel
theorem kc_31_87 : xe_code 31 87 = some (.if_icmp .gt 12, [99]) := by decide +kernel
theorem kc_31_90 : xe_code 31 90 = some (.aload_n 0, []) := by decide +kernel
theorem kc_31_91 : xe_code 31 91 = some (.getfield 222, [12, 18, 965]) := by decide +kernel
theorem kc_31_94 : xe_code 31 94 = some (.bipush 60, []) := by decide +kernel
theorem kc_31_96 : xe_code 31 96 = some (.if_icmp .ne 10, [106]) := by decide +kernel
theorem kc_31_99 : xe_code 31 99 = some (.aload_n 0, []) := by decide +kernel
theorem kc_31_100 : xe_code 31 100 = some (.bipush (-6), []) := by decide +kernel
theorem kc_31_102 : xe_code 31 102 = some (.invokevirtual 188, [13, 1, 1155, 12]) := by decide +kernel
theorem kc_31_105 : xe_code 31 105 = some (.ireturn, []) := by decide +kernel
theorem kc_31_106 : xe_code 31 106 = some (.aload_n 0, []) := by decide +kernel
theorem kc_31_107 : xe_code 31 107 = some (.getfield 60, [12, 19, 966]) := by decide +kernel
theorem kc_31_110 : xe_code 31 110 = some (.aload_n 0, []) := by decide +kernel
theorem kc_31_111 : xe_code 31 111 = some (.getfield 222, [12, 18, 965]) := by decide +kernel
theorem kc_31_114 : xe_code 31 114 = some (.iload_n 1, []) := by decide +kernel
theorem kc_31_115 : xe_code 31 115 = some (.iastore, []) := by decide +kernel
theorem kc_31_116 : xe_code 31 116 = some (.aload_n 0, []) := by decide +kernel
theorem kc_31_117 : xe_code 31 117 = some (.getfield 63, [12, 20, 967]) := by decide +kernel
theorem kc_31_120 : xe_code 31 120 = some (.aload_n 0, []) := by decide +kernel
theorem kc_31_121 : xe_code 31 121 = some (.getfield 222, [12, 18, 965]) := by decide +kernel
theorem kc_31_124 : xe_code 31 124 = some (.iload_n 2, []) := by decide +kernel
theorem kc_31_125 : xe_code 31 125 = some (.iastore, []) := by decide +kernel
theorem kc_31_126 : xe_code 31 126 = some (.aload_n 0, []) := by decide +kernel
theorem kc_31_127 : xe_code 31 127 = some (.getfield 66, [12, 21, 968]) := by decide +kernel
theorem kc_31_130 : xe_code 31 130 = some (.aload_n 0, []) := by decide +kernel
theorem kc_31_131 : xe_code 31 131 = some (.getfield 222, [12, 18, 965]) := by decide +kernel
theorem kc_31_134 : xe_code 31 134 = some (.iload_n 3, []) := by decide +kernel
theorem kc_31_135 : xe_code 31 135 = some (.iastore, []) := by decide +kernel
theorem kc_31_136 : xe_code 31 136 = some (.aload_n 0, []) := by decide +kernel
theorem kc_31_137 : xe_code 31 137 = some (.getfield 69, [12, 22, 969]) := by decide +kernel
theorem kc_31_140 : xe_code 31 140 = some (.aload_n 0, []) := by decide +kernel
theorem kc_31_141 : xe_code 31 141 = some (.getfield 222, [12, 18, 965]) := by decide +kernel
theorem kc_31_144 : xe_code 31 144 = some (.iload 4, []) := by decide +kernel
theorem kc_31_146 : xe_code 31 146 = some (.iastore, []) := by decide +kernel
theorem kc_31_147 : xe_code 31 147 = some (.aload_n 0, []) := by decide +kernel
theorem kc_31_148 : xe_code 31 148 = some (.dup, []) := by decide +kernel
theorem kc_31_149 : xe_code 31 149 = some (.getfield 222, [12, 18, 965]) := by decide +kernel
theorem kc_31_152 : xe_code 31 152 = some (.iconst 1, []) := by decide +kernel
theorem kc_31_153 : xe_code 31 153 = some (.iadd, []) := by decide +kernel
theorem kc_31_154 : xe_code 31 154 = some (.putfield 222, [12, 18, 965]) := by decide +kernel
theorem kc_31_157 : xe_code 31 157 = some (.aload_n 0, []) := by decide +kernel
theorem kc_31_158 : xe_code 31 158 = some (.iconst 0, []) := by decide +kernel
theorem kc_31_159 : xe_code 31 159 = some (.putfield 181, [12, 41, 988]) := by decide +kernel
theorem kc_31_162 : xe_code 31 162 = some (.aload_n 0, []) := by decide +kernel
theorem kc_31_163 : xe_code 31 163 = some (.getfield 222, [12, 18, 965]) := by decide +kernel
theorem kc_31_166 : xe_code 31 166 = some (.iconst 1, []) := by decide +kernel
theorem kc_31_167 : xe_code 31 167 = some (.isub, []) := by decide +kernel
theorem kc_31_168 : xe_code 31 168 = some (.ireturn, []) := by decide +kernel
theorem kc_32_0 : xe_code 32 0 = some (.iload_n 1, []) := by decide +kernel
theorem kc_32_1 : xe_code 32 1 = some (.invokestatic 177, [25, 1, 1204, 12]) := by decide +kernel
theorem kc_32_4 : xe_code 32 4 = some (.ifCond .eq 16, [20]) := by decide +kernel
theorem kc_32_7 : xe_code 32 7 = some (.aload_n 0, []) := by decide +kernel
theorem kc_32_8 : xe_code 32 8 = some (.getfield 37, [12, 11, 958]) := by decide +kernel
theorem kc_32_11 : xe_code 32 11 = some (.iload_n 1, []) := by decide +kernel
theorem kc_32_12 : xe_code 32 12 = some (.iaload, []) := by decide +kernel
theorem kc_32_13 : xe_code 32 13 = some (.ifCond .lt 7, [20]) := by decide +kernel
theorem kc_32_16 : xe_code 32 16 = some (.iconst 1, []) := by decide +kernel
theorem kc_32_17 : xe_code 32 17 = some (.goto 4, [21]) := by decide +kernel
theorem kc_32_20 : xe_code 32 20 = some (.iconst 0, []) := by decide +kernel
theorem kc_32_21 : xe_code 32 21 = some (.ireturn, []) := by decide +kernel
theorem kc_33_0 : xe_code 33 0 = some (.aload_n 0, []) := by decide +kernel
theorem kc_33_1 : xe_code 33 1 = some (.iconst 0, []) := by decide +kernel
theorem kc_33_2 : xe_code 33 2 = some (.putfield 169, [12, 0, 947]) := by decide +kernel
theorem kc_33_5 : xe_code 33 5 = some (.iload_n 1, []) := by decide +kernel
theorem kc_33_6 : xe_code 33 6 = some (.iconst 0, []) := by decide +kernel
theorem kc_33_7 : xe_code 33 7 = some (.iconst 3, []) := by decide +kernel
theorem kc_33_8 : xe_code 33 8 = some (.invokestatic 173, [12, 3, 1152, 12]) := by decide +kernel
theorem kc_33_11 : xe_code 33 11 = some (.ifCond .ne 10, [21]) := by decide +kernel
theorem kc_33_14 : xe_code 33 14 = some (.aload_n 0, []) := by decide +kernel
theorem kc_33_15 : xe_code 33 15 = some (.bipush (-2), []) := by decide +kernel
theorem kc_33_17 : xe_code 33 17 = some (.invokevirtual 188, [13, 1, 1155, 12]) := by decide +kernel
theorem kc_33_20 : xe_code 33 20 = some (.ireturn, []) := by decide +kernel
theorem kc_33_21 : xe_code 33 21 = some (.iload_n 1, []) := by decide +kernel
theorem kc_33_22 : xe_code 33 22 = some (.iconst 3, []) := by decide +kernel
theorem kc_33_23 : xe_code 33 23 = some (.if_icmp .ne 13, [36]) := by decide +kernel
theorem kc_33_26 : xe_code 33 26 = some (.iload_n 2, []) := by decide +kernel
theorem kc_33_27 : xe_code 33 27 = some (.invokestatic 185, [11, 1, 1149, 12]) := by decide +kernel
theorem kc_33_30 : xe_code 33 30 = some (.ifCond .ne 33, [63]) := by decide +kernel
theorem kc_33_33 : xe_code 33 33 = some (.goto 24, [57]) := by decide +kernel
theorem kc_33_36 : xe_code 33 36 = some (.aload_n 0, []) := by decide +kernel
theorem kc_33_37 : xe_code 33 37 = some (.iload_n 2, []) := by decide +kernel
theorem kc_33_38 : xe_code 33 38 = some (.invokevirtual 219, [32, 1, 1231, 12]) := by decide +kernel
theorem kc_33_41 : xe_code 33 41 = some (.ifCond .eq 16, [57]) := by decide +kernel
theorem kc_33_44 : xe_code 33 44 = some (.iload_n 1, []) := by decide +kernel
theorem kc_33_45 : xe_code 33 45 = some (.ifCond .ne 18, [63]) := by decide +kernel
theorem kc_33_48 : xe_code 33 48 = some (.aload_n 0, []) := by decide +kernel
theorem kc_33_49 : xe_code 33 49 = some (.getfield 43, [12, 13, 960]) := by decide +kernel
theorem kc_33_52 : xe_code 33 52 = some (.iload_n 2, []) := by decide +kernel
theorem kc_33_53 : xe_code 33 53 = some (.baload, []) := by decide +kernel
theorem kc_33_54 : xe_code 33 54 = some (.ifCond .ne 9, [63]) := by decide +kernel
theorem kc_33_57 : xe_code 33 57 = some (.aload_n 0, []) := by decide +kernel
theorem kc_33_58 : xe_code 33 58 = some (.iconst (-1), []) := by decide +kernel
theorem kc_33_59 : xe_code 33 59 = some (.invokevirtual 188, [13, 1, 1155, 12]) := by decide +kernel
theorem kc_33_62 : xe_code 33 62 = some (.ireturn, []) := by decide +kernel
theorem kc_33_63 : xe_code 33 63 = some (.iload_n 3, []) := by decide +kernel
theorem kc_33_64 : xe_code 33 64 = some (.iconst 1, []) := by decide +kernel
theorem kc_33_65 : xe_code 33 65 = some (.if_icmp .lt 8, [73]) := by decide +kernel
theorem kc_33_68 : xe_code 33 68 = some (.iload 4, []) := by decide +kernel
theorem kc_33_70 : xe_code 33 70 = some (.ifCond .ge 10, [80]) := by decide +kernel
theorem kc_33_73 : xe_code 33 73 = some (.aload_n 0, []) := by decide +kernel
theorem kc_33_74 : xe_code 33 74 = some (.bipush (-4), []) := by decide +kernel
theorem kc_33_76 : xe_code 33 76 = some (.invokevirtual 188, [13, 1, 1155, 12]) := by decide +kernel
theorem kc_33_79 : xe_code 33 79 = some (.ireturn, []) := by decide +kernel
theorem kc_33_80 : xe_code 33 80 = some (.iload_n 3, []) := by decide +kernel
theorem kc_33_81 : xe_code 33 81 = some (.bipush 99, []) := by decide +kernel
theorem kc_33_83 : xe_code 33 83 = some (.if_icmp .gt 20, [103]) := by decide +kernel
theorem kc_33_86 : xe_code 33 86 = some (.iload 4, []) := by decide +kernel
theorem kc_33_88 : xe_code 33 88 = some (.sipush 600, []) := by decide +kernel
theorem kc_33_91 : xe_code 33 91 = some (.if_icmp .gt 12, [103]) := by decide +kernel
theorem kc_33_94 : xe_code 33 94 = some (.aload_n 0, []) := by decide +kernel
theorem kc_33_95 : xe_code 33 95 = some (.getfield 225, [12, 23, 970]) := by decide +kernel
theorem kc_33_98 : xe_code 33 98 = some (.bipush 10, []) := by decide +kernel
theorem kc_33_100 : xe_code 33 100 = some (.if_icmp .ne 10, [110]) := by decide +kernel
theorem kc_33_103 : xe_code 33 103 = some (.aload_n 0, []) := by decide +kernel
theorem kc_33_104 : xe_code 33 104 = some (.bipush (-6), []) := by decide +kernel
theorem kc_33_106 : xe_code 33 106 = some (.invokevirtual 188, [13, 1, 1155, 12]) := by decide +kernel
theorem kc_33_109 : xe_code 33 109 = some (.ireturn, []) := by decide +kernel
theorem kc_33_110 : xe_code 33 110 = some (.aload_n 0, []) := by decide +kernel
theorem kc_33_111 : xe_code 33 111 = some (.getfield 72, [12, 24, 971]) := by decide +kernel
theorem kc_33_114 : xe_code 33 114 = some (.aload_n 0, []) := by decide +kernel
theorem kc_33_115 : xe_code 33 115 = some (.getfield 225, [12, 23, 970]) := by decide +kernel
theorem kc_33_118 : xe_code 33 118 = some (.iload_n 1, []) := by decide +kernel
theorem kc_33_119 : xe_code 33 119 = some (.iastore, []) := by decide +kernel
theorem kc_33_120 : xe_code 33 120 = some (.aload_n 0, []) := by decide +kernel
theorem kc_33_121 : xe_code 33 121 = some (.getfield 75, [12, 25, 972]) := by decide +kernel
theorem kc_33_124 : xe_code 33 124 = some (.aload_n 0, []) := by decide +kernel
theorem kc_33_125 : xe_code 33 125 = some (.getfield 225, [12, 23, 970]) := by decide +kernel
theorem kc_33_128 : xe_code 33 128 = some (.iload_n 2, []) := by decide +kernel
theorem kc_33_129 : xe_code 33 129 = some (.iastore, []) := by decide +kernel
theorem kc_33_130 : xe_code 33 130 = some (.aload_n 0, []) := by decide +kernel
theorem kc_33_131 : xe_code 33 131 = some (.getfield 78, [12, 26, 973]) := by decide +kernel
theorem kc_33_134 : xe_code 33 134 = some (.aload_n 0, []) := by decide +kernel
theorem kc_33_135 : xe_code 33 135 = some (.getfield 225, [12, 23, 970]) := by decide +kernel
theorem kc_33_138 : xe_code 33 138 = some (.iload_n 3, []) := by decide +kernel
theorem kc_33_139 : xe_code 33 139 = some (.iastore, []) := by decide +kernel
theorem kc_33_140 : xe_code 33 140 = some (.aload_n 0, []) := by decide +kernel
theorem kc_33_141 : xe_code 33 141 = some (.getfield 81, [12, 27, 974]) := by decide +kernel
theorem kc_33_144 : xe_code 33 144 = some (.aload_n 0, []) := by decide +kernel
theorem kc_33_145 : xe_code 33 145 = some (.getfield 225, [12, 23, 970]) := by decide +kernel
theorem kc_33_148 : xe_code 33 148 = some (.iload 4, []) := by decide +kernel
theorem kc_33_150 : xe_code 33 150 = some (.iastore, []) := by decide +kernel
theorem kc_33_151 : xe_code 33 151 = some (.aload_n 0, []) := by decide +kernel
theorem kc_33_152 : xe_code 33 152 = some (.getfield 84, [12, 28, 975]) := by decide +kernel
theorem kc_33_155 : xe_code 33 155 = some (.aload_n 0, []) := by decide +kernel
theorem kc_33_156 : xe_code 33 156 = some (.getfield 225, [12, 23, 970]) := by decide +kernel
theorem kc_33_159 : xe_code 33 159 = some (.iconst 0, []) := by decide +kernel
theorem kc_33_160 : xe_code 33 160 = some (.bastore, []) := by decide +kernel
theorem kc_33_161 : xe_code 33 161 = some (.aload_n 0, []) := by decide +kernel
theorem kc_33_162 : xe_code 33 162 = some (.dup, []) := by decide +kernel
theorem kc_33_163 : xe_code 33 163 = some (.getfield 225, [12, 23, 970]) := by decide +kernel
theorem kc_33_166 : xe_code 33 166 = some (.iconst 1, []) := by decide +kernel
theorem kc_33_167 : xe_code 33 167 = some (.iadd, []) := by decide +kernel
theorem kc_33_168 : xe_code 33 168 = some (.putfield 225, [12, 23, 970]) := by decide +kernel
theorem kc_33_171 : xe_code 33 171 = some (.aload_n 0, []) := by decide +kernel
theorem kc_33_172 : xe_code 33 172 = some (.iconst 0, []) := by decide +kernel
theorem kc_33_173 : xe_code 33 173 = some (.putfield 181, [12, 41, 988]) := by decide +kernel
theorem kc_33_176 : xe_code 33 176 = some (.aload_n 0, []) := by decide +kernel
theorem kc_33_177 : xe_code 33 177 = some (.getfield 225, [12, 23, 970]) := by decide +kernel
theorem kc_33_180 : xe_code 33 180 = some (.iconst 1, []) := by decide +kernel
theorem kc_33_181 : xe_code 33 181 = some (.isub, []) := by decide +kernel
theorem kc_33_182 : xe_code 33 182 = some (.ireturn, []) := by decide +kernel
theorem kc_34_0 : xe_code 34 0 = some (.aload_n 0, []) := by decide +kernel
theorem kc_34_1 : xe_code 34 1 = some (.iconst 0, []) := by decide +kernel
theorem kc_34_2 : xe_code 34 2 = some (.putfield 169, [12, 0, 947]) := by decide +kernel
theorem kc_34_5 : xe_code 34 5 = some (.iload_n 1, []) := by decide +kernel
theorem kc_34_6 : xe_code 34 6 = some (.iconst 0, []) := by decide +kernel
theorem kc_34_7 : xe_code 34 7 = some (.aload_n 0, []) := by decide +kernel
theorem kc_34_8 : xe_code 34 8 = some (.getfield 225, [12, 23, 970]) := by decide +kernel
theorem kc_34_11 : xe_code 34 11 = some (.iconst 1, []) := by decide +kernel
theorem kc_34_12 : xe_code 34 12 = some (.isub, []) := by decide +kernel
theorem kc_34_13 : xe_code 34 13 = some (.invokestatic 173, [12, 3, 1152, 12]) := by decide +kernel
theorem kc_34_16 : xe_code 34 16 = some (.ifCond .ne 9, [25]) := by decide +kernel
theorem kc_34_19 : xe_code 34 19 = some (.aload_n 0, []) := by decide +kernel
theorem kc_34_20 : xe_code 34 20 = some (.iconst (-1), []) := by decide +kernel
theorem kc_34_21 : xe_code 34 21 = some (.invokevirtual 188, [13, 1, 1155, 12]) := by decide +kernel
theorem kc_34_24 : xe_code 34 24 = some (.ireturn, []) := by decide +kernel
theorem kc_34_25 : xe_code 34 25 = some (.aload_n 0, []) := by decide +kernel
theorem kc_34_26 : xe_code 34 26 = some (.getfield 84, [12, 28, 975]) := by decide +kernel
theorem kc_34_29 : xe_code 34 29 = some (.iload_n 1, []) := by decide +kernel
theorem kc_34_30 : xe_code 34 30 = some (.baload, []) := by decide +kernel
theorem kc_34_31 : xe_code 34 31 = some (.istore_n 3, []) := by decide +kernel
theorem kc_34_32 : xe_code 34 32 = some (.aload_n 0, []) := by decide +kernel
theorem kc_34_33 : xe_code 34 33 = some (.getfield 84, [12, 28, 975]) := by decide +kernel
theorem kc_34_36 : xe_code 34 36 = some (.iload_n 1, []) := by decide +kernel
theorem kc_34_37 : xe_code 34 37 = some (.iload_n 2, []) := by decide +kernel
theorem kc_34_38 : xe_code 34 38 = some (.bastore, []) := by decide +kernel
theorem kc_34_39 : xe_code 34 39 = some (.iload_n 3, []) := by decide +kernel
theorem kc_34_40 : xe_code 34 40 = some (.iload_n 2, []) := by decide +kernel
theorem kc_34_41 : xe_code 34 41 = some (.if_icmp .ne 7, [48]) := by decide +kernel
theorem kc_34_44 : xe_code 34 44 = some (.iconst 0, []) := by decide +kernel
theorem kc_34_45 : xe_code 34 45 = some (.goto 4, [49]) := by decide +kernel
theorem kc_34_48 : xe_code 34 48 = some (.iconst 1, []) := by decide +kernel
theorem kc_34_49 : xe_code 34 49 = some (.ireturn, []) := by decide +kernel
theorem kc_35_0 : xe_code 35 0 = some (.aload_n 0, []) := by decide +kernel
theorem kc_35_1 : xe_code 35 1 = some (.iconst 0, []) := by decide +kernel
theorem kc_35_2 : xe_code 35 2 = some (.putfield 169, [12, 0, 947]) := by decide +kernel
theorem kc_35_5 : xe_code 35 5 = some (.iload_n 1, []) := by decide +kernel
theorem kc_35_6 : xe_code 35 6 = some (.iconst 1, []) := by decide +kernel
theorem kc_35_7 : xe_code 35 7 = some (.if_icmp .ge 10, [17]) := by decide +kernel
theorem kc_35_10 : xe_code 35 10 = some (.aload_n 0, []) := by decide +kernel
theorem kc_35_11 : xe_code 35 11 = some (.bipush (-4), []) := by decide +kernel
theorem kc_35_13 : xe_code 35 13 = some (.invokevirtual 188, [13, 1, 1155, 12]) := by decide +kernel
theorem kc_35_16 : xe_code 35 16 = some (.ireturn, []) := by decide +kernel
theorem kc_35_17 : xe_code 35 17 = some (.iload_n 1, []) := by decide +kernel
theorem kc_35_18 : xe_code 35 18 = some (.sipush 600, []) := by decide +kernel
theorem kc_35_21 : xe_code 35 21 = some (.aload_n 0, []) := by decide +kernel
theorem kc_35_22 : xe_code 35 22 = some (.getfield 213, [12, 1, 948]) := by decide +kernel
theorem kc_35_25 : xe_code 35 25 = some (.isub, []) := by decide +kernel
theorem kc_35_26 : xe_code 35 26 = some (.if_icmp .le 10, [36]) := by decide +kernel
theorem kc_35_29 : xe_code 35 29 = some (.aload_n 0, []) := by decide +kernel
theorem kc_35_30 : xe_code 35 30 = some (.bipush (-6), []) := by decide +kernel
theorem kc_35_32 : xe_code 35 32 = some (.invokevirtual 188, [13, 1, 1155, 12]) := by decide +kernel
theorem kc_35_35 : xe_code 35 35 = some (.ireturn, []) := by decide +kernel
theorem kc_35_36 : xe_code 35 36 = some (.iconst 0, []) := by decide +kernel
theorem kc_35_37 : xe_code 35 37 = some (.istore_n 2, []) := by decide +kernel
theorem kc_35_38 : xe_code 35 38 = some (.iload_n 2, []) := by decide +kernel
theorem kc_35_39 : xe_code 35 39 = some (.iload_n 1, []) := by decide +kernel
theorem kc_35_40 : xe_code 35 40 = some (.if_icmp .ge 13, [53]) := by decide +kernel
theorem kc_35_43 : xe_code 35 43 = some (.aload_n 0, []) := by decide +kernel
theorem kc_35_44 : xe_code 35 44 = some (.invokevirtual 256, [36, 0, 1247, 12]) := by decide +kernel
theorem kc_35_47 : xe_code 35 47 = some (.iinc 2 1, []) := by decide +kernel
theorem kc_35_50 : xe_code 35 50 = some (.goto (-12), [38]) := by decide +kernel
theorem kc_35_53 : xe_code 35 53 = some (.aload_n 0, []) := by decide +kernel
theorem kc_35_54 : xe_code 35 54 = some (.getfield 213, [12, 1, 948]) := by decide +kernel
theorem kc_35_57 : xe_code 35 57 = some (.ireturn, []) := by decide +kernel
theorem kc_36_0 : xe_code 36 0 = some (.iconst 0, []) := by decide +kernel
theorem kc_36_1 : xe_code 36 1 = some (.istore_n 1, []) := by decide +kernel
theorem kc_36_2 : xe_code 36 2 = some (.iload_n 1, []) := by decide +kernel
theorem kc_36_3 : xe_code 36 3 = some (.aload_n 0, []) := by decide +kernel
theorem kc_36_4 : xe_code 36 4 = some (.getfield 249, [12, 34, 981]) := by decide +kernel
theorem kc_36_7 : xe_code 36 7 = some (.if_icmp .ge 84, [91]) := by decide +kernel
theorem kc_36_10 : xe_code 36 10 = some (.aload_n 0, []) := by decide +kernel
theorem kc_36_11 : xe_code 36 11 = some (.getfield 105, [12, 38, 985]) := by decide +kernel
theorem kc_36_14 : xe_code 36 14 = some (.iload_n 1, []) := by decide +kernel
theorem kc_36_15 : xe_code 36 15 = some (.iaload, []) := by decide +kernel
theorem kc_36_16 : xe_code 36 16 = some (.aload_n 0, []) := by decide +kernel
theorem kc_36_17 : xe_code 36 17 = some (.getfield 213, [12, 1, 948]) := by decide +kernel
theorem kc_36_20 : xe_code 36 20 = some (.if_icmp .ne 65, [85]) := by decide +kernel
theorem kc_36_23 : xe_code 36 23 = some (.aload_n 0, []) := by decide +kernel
theorem kc_36_24 : xe_code 36 24 = some (.getfield 99, [12, 36, 983]) := by decide +kernel
theorem kc_36_27 : xe_code 36 27 = some (.iload_n 1, []) := by decide +kernel
theorem kc_36_28 : xe_code 36 28 = some (.iaload, []) := by decide +kernel
theorem kc_36_29 : xe_code 36 29 = some (.ifCond .ne 7, [36]) := by decide +kernel
theorem kc_36_32 : xe_code 36 32 = some (.iconst 4, []) := by decide +kernel
theorem kc_36_33 : xe_code 36 33 = some (.goto 4, [37]) := by decide +kernel
theorem kc_36_36 : xe_code 36 36 = some (.iconst 2, []) := by decide +kernel
theorem kc_36_37 : xe_code 36 37 = some (.istore_n 2, []) := by decide +kernel
theorem kc_36_38 : xe_code 36 38 = some (.aload_n 0, []) := by decide +kernel
theorem kc_36_39 : xe_code 36 39 = some (.getfield 111, [12, 40, 987]) := by decide +kernel
theorem kc_36_42 : xe_code 36 42 = some (.iload_n 1, []) := by decide +kernel
theorem kc_36_43 : xe_code 36 43 = some (.aload_n 0, []) := by decide +kernel
theorem kc_36_44 : xe_code 36 44 = some (.aload_n 0, []) := by decide +kernel
theorem kc_36_45 : xe_code 36 45 = some (.getfield 96, [12, 35, 982]) := by decide +kernel
theorem kc_36_48 : xe_code 36 48 = some (.iload_n 1, []) := by decide +kernel
theorem kc_36_49 : xe_code 36 49 = some (.iaload, []) := by decide +kernel
theorem kc_36_50 : xe_code 36 50 = some (.iload_n 2, []) := by decide +kernel
theorem kc_36_51 : xe_code 36 51 = some (.invokevirtual 193, [14, 2, 1160, 12]) := by decide +kernel
theorem kc_36_54 : xe_code 36 54 = some (.iastore, []) := by decide +kernel
theorem kc_36_55 : xe_code 36 55 = some (.aload_n 0, []) := by decide +kernel
theorem kc_36_56 : xe_code 36 56 = some (.aload_n 0, []) := by decide +kernel
theorem kc_36_57 : xe_code 36 57 = some (.getfield 96, [12, 35, 982]) := by decide +kernel
theorem kc_36_60 : xe_code 36 60 = some (.iload_n 1, []) := by decide +kernel
theorem kc_36_61 : xe_code 36 61 = some (.iaload, []) := by decide +kernel
theorem kc_36_62 : xe_code 36 62 = some (.iload_n 2, []) := by decide +kernel
theorem kc_36_63 : xe_code 36 63 = some (.aload_n 0, []) := by decide +kernel
theorem kc_36_64 : xe_code 36 64 = some (.getfield 99, [12, 36, 983]) := by decide +kernel
theorem kc_36_67 : xe_code 36 67 = some (.iload_n 1, []) := by decide +kernel
theorem kc_36_68 : xe_code 36 68 = some (.iaload, []) := by decide +kernel
theorem kc_36_69 : xe_code 36 69 = some (.ifCond .ne 7, [76]) := by decide +kernel
theorem kc_36_72 : xe_code 36 72 = some (.iconst 1, []) := by decide +kernel
theorem kc_36_73 : xe_code 36 73 = some (.goto 9, [82]) := by decide +kernel
theorem kc_36_76 : xe_code 36 76 = some (.aload_n 0, []) := by decide +kernel
theorem kc_36_77 : xe_code 36 77 = some (.getfield 102, [12, 37, 984]) := by decide +kernel
theorem kc_36_80 : xe_code 36 80 = some (.iload_n 1, []) := by decide +kernel
theorem kc_36_81 : xe_code 36 81 = some (.iaload, []) := by decide +kernel
theorem kc_36_82 : xe_code 36 82 = some (.invokevirtual 197, [15, 3, 1164, 12]) := by decide +kernel
theorem kc_36_85 : xe_code 36 85 = some (.iinc 1 1, []) := by decide +kernel
theorem kc_36_88 : xe_code 36 88 = some (.goto (-86), [2]) := by decide +kernel
theorem kc_36_91 : xe_code 36 91 = some (.iconst 0, []) := by decide +kernel
theorem kc_36_92 : xe_code 36 92 = some (.istore_n 1, []) := by decide +kernel
theorem kc_36_93 : xe_code 36 93 = some (.iload_n 1, []) := by decide +kernel
theorem kc_36_94 : xe_code 36 94 = some (.bipush 6, []) := by decide +kernel
theorem kc_36_96 : xe_code 36 96 = some (.if_icmp .ge 21, [117]) := by decide +kernel
theorem kc_36_99 : xe_code 36 99 = some (.aload_n 0, []) := by decide +kernel
theorem kc_36_100 : xe_code 36 100 = some (.getfield 90, [12, 30, 977]) := by decide +kernel
theorem kc_36_103 : xe_code 36 103 = some (.iload_n 1, []) := by decide +kernel
theorem kc_36_104 : xe_code 36 104 = some (.aload_n 0, []) := by decide +kernel
theorem kc_36_105 : xe_code 36 105 = some (.getfield 25, [12, 7, 954]) := by decide +kernel
theorem kc_36_108 : xe_code 36 108 = some (.iload_n 1, []) := by decide +kernel
theorem kc_36_109 : xe_code 36 109 = some (.iaload, []) := by decide +kernel
theorem kc_36_110 : xe_code 36 110 = some (.iastore, []) := by decide +kernel
theorem kc_36_111 : xe_code 36 111 = some (.iinc 1 1, []) := by decide +kernel
theorem kc_36_114 : xe_code 36 114 = some (.goto (-21), [93]) := by decide +kernel
theorem kc_36_117 : xe_code 36 117 = some (.iconst 0, []) := by decide +kernel
theorem kc_36_118 : xe_code 36 118 = some (.istore_n 1, []) := by decide +kernel
theorem kc_36_119 : xe_code 36 119 = some (.iload_n 1, []) := by decide +kernel
theorem kc_36_120 : xe_code 36 120 = some (.bipush 12, []) := by decide +kernel
theorem kc_36_122 : xe_code 36 122 = some (.if_icmp .ge 21, [143]) := by decide +kernel
theorem kc_36_125 : xe_code 36 125 = some (.aload_n 0, []) := by decide +kernel
theorem kc_36_126 : xe_code 36 126 = some (.getfield 93, [12, 31, 978]) := by decide +kernel
theorem kc_36_129 : xe_code 36 129 = some (.iload_n 1, []) := by decide +kernel
theorem kc_36_130 : xe_code 36 130 = some (.aload_n 0, []) := by decide +kernel
theorem kc_36_131 : xe_code 36 131 = some (.getfield 47, [12, 14, 961]) := by decide +kernel
theorem kc_36_134 : xe_code 36 134 = some (.iload_n 1, []) := by decide +kernel
theorem kc_36_135 : xe_code 36 135 = some (.iaload, []) := by decide +kernel
theorem kc_36_136 : xe_code 36 136 = some (.iastore, []) := by decide +kernel
theorem kc_36_137 : xe_code 36 137 = some (.iinc 1 1, []) := by decide +kernel
theorem kc_36_140 : xe_code 36 140 = some (.goto (-21), [119]) := by decide +kernel
theorem kc_36_143 : xe_code 36 143 = some (.aload_n 0, []) := by decide +kernel
theorem kc_36_144 : xe_code 36 144 = some (.aload_n 0, []) := by decide +kernel
theorem kc_36_145 : xe_code 36 145 = some (.aload_n 0, []) := by decide +kernel
theorem kc_36_146 : xe_code 36 146 = some (.getfield 213, [12, 1, 948]) := by decide +kernel
theorem kc_36_149 : xe_code 36 149 = some (.invokevirtual 204, [20, 1, 1185, 12]) := by decide +kernel
theorem kc_36_152 : xe_code 36 152 = some (.putfield 235, [12, 32, 979]) := by decide +kernel
theorem kc_36_155 : xe_code 36 155 = some (.aload_n 0, []) := by decide +kernel
theorem kc_36_156 : xe_code 36 156 = some (.aload_n 0, []) := by decide +kernel
theorem kc_36_157 : xe_code 36 157 = some (.aload_n 0, []) := by decide +kernel
theorem kc_36_158 : xe_code 36 158 = some (.getfield 213, [12, 1, 948]) := by decide +kernel
theorem kc_36_161 : xe_code 36 161 = some (.invokevirtual 207, [21, 1, 1189, 12]) := by decide +kernel
theorem kc_36_164 : xe_code 36 164 = some (.putfield 246, [12, 33, 980]) := by decide +kernel
theorem kc_36_167 : xe_code 36 167 = some (.aload_n 0, []) := by decide +kernel
theorem kc_36_168 : xe_code 36 168 = some (.iconst 0, []) := by decide +kernel
theorem kc_36_169 : xe_code 36 169 = some (.iconst 1, []) := by decide +kernel
theorem kc_36_170 : xe_code 36 170 = some (.aload_n 0, []) := by decide +kernel
theorem kc_36_171 : xe_code 36 171 = some (.getfield 213, [12, 1, 948]) := by decide +kernel
theorem kc_36_174 : xe_code 36 174 = some (.invokevirtual 252, [37, 3, 1251, 12]) := by decide +kernel
theorem kc_36_177 : xe_code 36 177 = some (.iconst 0, []) := by decide +kernel
theorem kc_36_178 : xe_code 36 178 = some (.istore_n 1, []) := by decide +kernel
theorem kc_36_179 : xe_code 36 179 = some (.iload_n 1, []) := by decide +kernel
theorem kc_36_180 : xe_code 36 180 = some (.bipush 6, []) := by decide +kernel
theorem kc_36_182 : xe_code 36 182 = some (.if_icmp .ge 21, [203]) := by decide +kernel
theorem kc_36_185 : xe_code 36 185 = some (.aload_n 0, []) := by decide +kernel
theorem kc_36_186 : xe_code 36 186 = some (.getfield 25, [12, 7, 954]) := by decide +kernel
theorem kc_36_189 : xe_code 36 189 = some (.iload_n 1, []) := by decide +kernel
theorem kc_36_190 : xe_code 36 190 = some (.aload_n 0, []) := by decide +kernel
theorem kc_36_191 : xe_code 36 191 = some (.getfield 90, [12, 30, 977]) := by decide +kernel
theorem kc_36_194 : xe_code 36 194 = some (.iload_n 1, []) := by decide +kernel
theorem kc_36_195 : xe_code 36 195 = some (.iaload, []) := by decide +kernel
theorem kc_36_196 : xe_code 36 196 = some (.iastore, []) := by decide +kernel
theorem kc_36_197 : xe_code 36 197 = some (.iinc 1 1, []) := by decide +kernel
theorem kc_36_200 : xe_code 36 200 = some (.goto (-21), [179]) := by decide +kernel
theorem kc_36_203 : xe_code 36 203 = some (.iconst 0, []) := by decide +kernel
theorem kc_36_204 : xe_code 36 204 = some (.istore_n 1, []) := by decide +kernel
theorem kc_36_205 : xe_code 36 205 = some (.iload_n 1, []) := by decide +kernel
theorem kc_36_206 : xe_code 36 206 = some (.bipush 12, []) := by decide +kernel
theorem kc_36_208 : xe_code 36 208 = some (.if_icmp .ge 66, [274]) := by decide +kernel
theorem kc_36_211 : xe_code 36 211 = some (.aload_n 0, []) := by decide +kernel
theorem kc_36_212 : xe_code 36 212 = some (.getfield 47, [12, 14, 961]) := by decide +kernel
theorem kc_36_215 : xe_code 36 215 = some (.iload_n 1, []) := by decide +kernel
theorem kc_36_216 : xe_code 36 216 = some (.aload_n 0, []) := by decide +kernel
theorem kc_36_217 : xe_code 36 217 = some (.getfield 93, [12, 31, 978]) := by decide +kernel
theorem kc_36_220 : xe_code 36 220 = some (.iload_n 1, []) := by decide +kernel
theorem kc_36_221 : xe_code 36 221 = some (.iaload, []) := by decide +kernel
theorem kc_36_222 : xe_code 36 222 = some (.iastore, []) := by decide +kernel
theorem kc_36_223 : xe_code 36 223 = some (.aload_n 0, []) := by decide +kernel
theorem kc_36_224 : xe_code 36 224 = some (.getfield 50, [12, 15, 962]) := by decide +kernel
theorem kc_36_227 : xe_code 36 227 = some (.iload_n 1, []) := by decide +kernel
theorem kc_36_228 : xe_code 36 228 = some (.dup2, []) := by decide +kernel
theorem kc_36_229 : xe_code 36 229 = some (.iaload, []) := by decide +kernel
theorem kc_36_230 : xe_code 36 230 = some (.aload_n 0, []) := by decide +kernel
theorem kc_36_231 : xe_code 36 231 = some (.getfield 47, [12, 14, 961]) := by decide +kernel
theorem kc_36_234 : xe_code 36 234 = some (.iload_n 1, []) := by decide +kernel
theorem kc_36_235 : xe_code 36 235 = some (.iaload, []) := by decide +kernel
theorem kc_36_236 : xe_code 36 236 = some (.bipush 50, []) := by decide +kernel
theorem kc_36_238 : xe_code 36 238 = some (.if_icmp .lt 7, [245]) := by decide +kernel
theorem kc_36_241 : xe_code 36 241 = some (.iconst 1, []) := by decide +kernel
theorem kc_36_242 : xe_code 36 242 = some (.goto 4, [246]) := by decide +kernel
theorem kc_36_245 : xe_code 36 245 = some (.iconst 0, []) := by decide +kernel
theorem kc_36_246 : xe_code 36 246 = some (.iadd, []) := by decide +kernel
theorem kc_36_247 : xe_code 36 247 = some (.iastore, []) := by decide +kernel
theorem kc_36_248 : xe_code 36 248 = some (.aload_n 0, []) := by decide +kernel
theorem kc_36_249 : xe_code 36 249 = some (.getfield 57, [12, 17, 964]) := by decide +kernel
theorem kc_36_252 : xe_code 36 252 = some (.bipush 12, []) := by decide +kernel
theorem kc_36_254 : xe_code 36 254 = some (.aload_n 0, []) := by decide +kernel
theorem kc_36_255 : xe_code 36 255 = some (.getfield 213, [12, 1, 948]) := by decide +kernel
theorem kc_36_258 : xe_code 36 258 = some (.imul, []) := by decide +kernel
theorem kc_36_259 : xe_code 36 259 = some (.iload_n 1, []) := by decide +kernel
theorem kc_36_260 : xe_code 36 260 = some (.iadd, []) := by decide +kernel
theorem kc_36_261 : xe_code 36 261 = some (.aload_n 0, []) := by decide +kernel
theorem kc_36_262 : xe_code 36 262 = some (.getfield 47, [12, 14, 961]) := by decide +kernel
theorem kc_36_265 : xe_code 36 265 = some (.iload_n 1, []) := by decide +kernel
theorem kc_36_266 : xe_code 36 266 = some (.iaload, []) := by decide +kernel
theorem kc_36_267 : xe_code 36 267 = some (.iastore, []) := by decide +kernel
theorem kc_36_268 : xe_code 36 268 = some (.iinc 1 1, []) := by decide +kernel
theorem kc_36_271 : xe_code 36 271 = some (.goto (-66), [205]) := by decide +kernel
theorem kc_36_274 : xe_code 36 274 = some (.aload_n 0, []) := by decide +kernel
theorem kc_36_275 : xe_code 36 275 = some (.dup, []) := by decide +kernel
theorem kc_36_276 : xe_code 36 276 = some (.getfield 213, [12, 1, 948]) := by decide +kernel
theorem kc_36_279 : xe_code 36 279 = some (.iconst 1, []) := by decide +kernel
theorem kc_36_280 : xe_code 36 280 = some (.iadd, []) := by decide +kernel
theorem kc_36_281 : xe_code 36 281 = some (.putfield 213, [12, 1, 948]) := by decide +kernel
theorem kc_36_284 : xe_code 36 284 = some (.iconst 0, []) := by decide +kernel
theorem kc_36_285 : xe_code 36 285 = some (.istore_n 1, []) := by decide +kernel
theorem kc_36_286 : xe_code 36 286 = some (.iload_n 1, []) := by decide +kernel
theorem kc_36_287 : xe_code 36 287 = some (.aload_n 0, []) := by decide +kernel
theorem kc_36_288 : xe_code 36 288 = some (.getfield 249, [12, 34, 981]) := by decide +kernel
theorem kc_36_291 : xe_code 36 291 = some (.if_icmp .ge 52, [343]) := by decide +kernel
theorem kc_36_294 : xe_code 36 294 = some (.aload_n 0, []) := by decide +kernel
theorem kc_36_295 : xe_code 36 295 = some (.getfield 108, [12, 39, 986]) := by decide +kernel
theorem kc_36_298 : xe_code 36 298 = some (.iload_n 1, []) := by decide +kernel
theorem kc_36_299 : xe_code 36 299 = some (.iaload, []) := by decide +kernel
theorem kc_36_300 : xe_code 36 300 = some (.aload_n 0, []) := by decide +kernel
theorem kc_36_301 : xe_code 36 301 = some (.getfield 213, [12, 1, 948]) := by decide +kernel
theorem kc_36_304 : xe_code 36 304 = some (.if_icmp .ne 33, [337]) := by decide +kernel
theorem kc_36_307 : xe_code 36 307 = some (.aload_n 0, []) := by decide +kernel
theorem kc_36_308 : xe_code 36 308 = some (.aload_n 0, []) := by decide +kernel
theorem kc_36_309 : xe_code 36 309 = some (.getfield 96, [12, 35, 982]) := by decide +kernel
theorem kc_36_312 : xe_code 36 312 = some (.iload_n 1, []) := by decide +kernel
theorem kc_36_313 : xe_code 36 313 = some (.iaload, []) := by decide +kernel
theorem kc_36_314 : xe_code 36 314 = some (.aload_n 0, []) := by decide +kernel
theorem kc_36_315 : xe_code 36 315 = some (.getfield 99, [12, 36, 983]) := by decide +kernel
theorem kc_36_318 : xe_code 36 318 = some (.iload_n 1, []) := by decide +kernel
theorem kc_36_319 : xe_code 36 319 = some (.iaload, []) := by decide +kernel
theorem kc_36_320 : xe_code 36 320 = some (.ifCond .ne 7, [327]) := by decide +kernel
theorem kc_36_323 : xe_code 36 323 = some (.iconst 4, []) := by decide +kernel
theorem kc_36_324 : xe_code 36 324 = some (.goto 4, [328]) := by decide +kernel
theorem kc_36_327 : xe_code 36 327 = some (.iconst 2, []) := by decide +kernel
theorem kc_36_328 : xe_code 36 328 = some (.aload_n 0, []) := by decide +kernel
theorem kc_36_329 : xe_code 36 329 = some (.getfield 111, [12, 40, 987]) := by decide +kernel
theorem kc_36_332 : xe_code 36 332 = some (.iload_n 1, []) := by decide +kernel
theorem kc_36_333 : xe_code 36 333 = some (.iaload, []) := by decide +kernel
theorem kc_36_334 : xe_code 36 334 = some (.invokevirtual 197, [15, 3, 1164, 12]) := by decide +kernel
theorem kc_36_337 : xe_code 36 337 = some (.iinc 1 1, []) := by decide +kernel
theorem kc_36_340 : xe_code 36 340 = some (.goto (-54), [286]) := by decide +kernel
theorem kc_36_343 : xe_code 36 343 = some (.aload_n 0, []) := by decide +kernel
theorem kc_36_344 : xe_code 36 344 = some (.iconst 0, []) := by decide +kernel
theorem kc_36_345 : xe_code 36 345 = some (.putfield 181, [12, 41, 988]) := by decide +kernel
theorem kc_36_348 : xe_code 36 348 = some (.return_, []) := by decide +kernel
theorem kc_37_0 : xe_code 37 0 = some (.iconst 0, []) := by decide +kernel
theorem kc_37_1 : xe_code 37 1 = some (.istore 4, []) := by decide +kernel
theorem kc_37_3 : xe_code 37 3 = some (.iload 4, []) := by decide +kernel
theorem kc_37_5 : xe_code 37 5 = some (.bipush 6, []) := by decide +kernel
theorem kc_37_7 : xe_code 37 7 = some (.if_icmp .ge 18, [25]) := by decide +kernel
theorem kc_37_10 : xe_code 37 10 = some (.aload_n 0, []) := by decide +kernel
theorem kc_37_11 : xe_code 37 11 = some (.iload 4, []) := by decide +kernel
theorem kc_37_13 : xe_code 37 13 = some (.iload_n 1, []) := by decide +kernel
theorem kc_37_14 : xe_code 37 14 = some (.iload_n 2, []) := by decide +kernel
theorem kc_37_15 : xe_code 37 15 = some (.iload_n 3, []) := by decide +kernel
theorem kc_37_16 : xe_code 37 16 = some (.invokevirtual 242, [38, 4, 1255, 12]) := by decide +kernel
theorem kc_37_19 : xe_code 37 19 = some (.iinc 4 1, []) := by decide +kernel
theorem kc_37_22 : xe_code 37 22 = some (.goto (-19), [3]) := by decide +kernel
theorem kc_37_25 : xe_code 37 25 = some (.iconst 0, []) := by decide +kernel
theorem kc_37_26 : xe_code 37 26 = some (.istore 4, []) := by decide +kernel
theorem kc_37_28 : xe_code 37 28 = some (.iload 4, []) := by decide +kernel
theorem kc_37_30 : xe_code 37 30 = some (.aload_n 0, []) := by decide +kernel
theorem kc_37_31 : xe_code 37 31 = some (.getfield 225, [12, 23, 970]) := by decide +kernel
theorem kc_37_34 : xe_code 37 34 = some (.if_icmp .ge 120, [154]) := by decide +kernel
theorem kc_37_37 : xe_code 37 37 = some (.aload_n 0, []) := by decide +kernel
theorem kc_37_38 : xe_code 37 38 = some (.getfield 72, [12, 24, 971]) := by decide +kernel
theorem kc_37_41 : xe_code 37 41 = some (.iload 4, []) := by decide +kernel
theorem kc_37_43 : xe_code 37 43 = some (.iaload, []) := by decide +kernel
theorem kc_37_44 : xe_code 37 44 = some (.iconst 3, []) := by decide +kernel
theorem kc_37_45 : xe_code 37 45 = some (.if_icmp .ge 103, [148]) := by decide +kernel
theorem kc_37_48 : xe_code 37 48 = some (.aload_n 0, []) := by decide +kernel
theorem kc_37_49 : xe_code 37 49 = some (.iload 4, []) := by decide +kernel
theorem kc_37_51 : xe_code 37 51 = some (.iload_n 1, []) := by decide +kernel
theorem kc_37_52 : xe_code 37 52 = some (.iload_n 2, []) := by decide +kernel
theorem kc_37_53 : xe_code 37 53 = some (.iload_n 3, []) := by decide +kernel
theorem kc_37_54 : xe_code 37 54 = some (.invokevirtual 228, [39, 4, 1259, 12]) := by decide +kernel
theorem kc_37_57 : xe_code 37 57 = some (.ifCond .eq 91, [148]) := by decide +kernel
theorem kc_37_60 : xe_code 37 60 = some (.aload_n 0, []) := by decide +kernel
theorem kc_37_61 : xe_code 37 61 = some (.getfield 72, [12, 24, 971]) := by decide +kernel
theorem kc_37_64 : xe_code 37 64 = some (.iload 4, []) := by decide +kernel
theorem kc_37_66 : xe_code 37 66 = some (.iaload, []) := by decide +kernel
theorem kc_37_67 : xe_code 37 67 = some (.ifCond .ne 18, [85]) := by decide +kernel
theorem kc_37_70 : xe_code 37 70 = some (.aload_n 0, []) := by decide +kernel
theorem kc_37_71 : xe_code 37 71 = some (.getfield 78, [12, 26, 973]) := by decide +kernel
theorem kc_37_74 : xe_code 37 74 = some (.iload 4, []) := by decide +kernel
theorem kc_37_76 : xe_code 37 76 = some (.iaload, []) := by decide +kernel
theorem kc_37_77 : xe_code 37 77 = some (.aload_n 0, []) := by decide +kernel
theorem kc_37_78 : xe_code 37 78 = some (.getfield 246, [12, 33, 980]) := by decide +kernel
theorem kc_37_81 : xe_code 37 81 = some (.imul, []) := by decide +kernel
theorem kc_37_82 : xe_code 37 82 = some (.goto 34, [116]) := by decide +kernel
theorem kc_37_85 : xe_code 37 85 = some (.aload_n 0, []) := by decide +kernel
theorem kc_37_86 : xe_code 37 86 = some (.getfield 72, [12, 24, 971]) := by decide +kernel
theorem kc_37_89 : xe_code 37 89 = some (.iload 4, []) := by decide +kernel
theorem kc_37_91 : xe_code 37 91 = some (.iaload, []) := by decide +kernel
theorem kc_37_92 : xe_code 37 92 = some (.iconst 1, []) := by decide +kernel
theorem kc_37_93 : xe_code 37 93 = some (.if_icmp .eq 12, [105]) := by decide +kernel
theorem kc_37_96 : xe_code 37 96 = some (.iload_n 3, []) := by decide +kernel
theorem kc_37_97 : xe_code 37 97 = some (.bipush 24, []) := by decide +kernel
theorem kc_37_99 : xe_code 37 99 = some (.irem, []) := by decide +kernel
theorem kc_37_100 : xe_code 37 100 = some (.bipush 6, []) := by decide +kernel
theorem kc_37_102 : xe_code 37 102 = some (.if_icmp .ge 13, [115]) := by decide +kernel
theorem kc_37_105 : xe_code 37 105 = some (.aload_n 0, []) := by decide +kernel
theorem kc_37_106 : xe_code 37 106 = some (.getfield 78, [12, 26, 973]) := by decide +kernel
theorem kc_37_109 : xe_code 37 109 = some (.iload 4, []) := by decide +kernel
theorem kc_37_111 : xe_code 37 111 = some (.iaload, []) := by decide +kernel
theorem kc_37_112 : xe_code 37 112 = some (.goto 4, [116]) := by decide +kernel
theorem kc_37_115 : xe_code 37 115 = some (.iconst 0, []) := by decide +kernel
theorem kc_37_116 : xe_code 37 116 = some (.istore 5, []) := by decide +kernel
theorem kc_37_118 : xe_code 37 118 = some (.aload_n 0, []) := by decide +kernel
theorem kc_37_119 : xe_code 37 119 = some (.getfield 93, [12, 31, 978]) := by decide +kernel
theorem kc_37_122 : xe_code 37 122 = some (.aload_n 0, []) := by decide +kernel
theorem kc_37_123 : xe_code 37 123 = some (.getfield 75, [12, 25, 972]) := by decide +kernel
theorem kc_37_126 : xe_code 37 126 = some (.iload 4, []) := by decide +kernel
theorem kc_37_128 : xe_code 37 128 = some (.iaload, []) := by decide +kernel
theorem kc_37_129 : xe_code 37 129 = some (.aload_n 0, []) := by decide +kernel
theorem kc_37_130 : xe_code 37 130 = some (.getfield 93, [12, 31, 978]) := by decide +kernel
theorem kc_37_133 : xe_code 37 133 = some (.aload_n 0, []) := by decide +kernel
theorem kc_37_134 : xe_code 37 134 = some (.getfield 75, [12, 25, 972]) := by decide +kernel
theorem kc_37_137 : xe_code 37 137 = some (.iload 4, []) := by decide +kernel
theorem kc_37_139 : xe_code 37 139 = some (.iaload, []) := by decide +kernel
theorem kc_37_140 : xe_code 37 140 = some (.iaload, []) := by decide +kernel
theorem kc_37_141 : xe_code 37 141 = some (.iload 5, []) := by decide +kernel
theorem kc_37_143 : xe_code 37 143 = some (.iadd, []) := by decide +kernel
theorem kc_37_144 : xe_code 37 144 = some (.invokestatic 232, [40, 1, 1263, 12]) := by decide +kernel
theorem kc_37_147 : xe_code 37 147 = some (.iastore, []) := by decide +kernel
theorem kc_37_148 : xe_code 37 148 = some (.iinc 4 1, []) := by decide +kernel
theorem kc_37_151 : xe_code 37 151 = some (.goto (-123), [28]) := by decide +kernel
theorem kc_37_154 : xe_code 37 154 = some (.iconst 0, []) := by decide +kernel
theorem kc_37_155 : xe_code 37 155 = some (.istore 4, []) := by decide +kernel
theorem kc_37_157 : xe_code 37 157 = some (.iload 4, []) := by decide +kernel
theorem kc_37_159 : xe_code 37 159 = some (.bipush 12, []) := by decide +kernel
theorem kc_37_161 : xe_code 37 161 = some (.if_icmp .ge 37, [198]) := by decide +kernel
theorem kc_37_164 : xe_code 37 164 = some (.aload_n 0, []) := by decide +kernel
theorem kc_37_165 : xe_code 37 165 = some (.getfield 93, [12, 31, 978]) := by decide +kernel
theorem kc_37_168 : xe_code 37 168 = some (.iload 4, []) := by decide +kernel
theorem kc_37_170 : xe_code 37 170 = some (.dup2, []) := by decide +kernel
theorem kc_37_171 : xe_code 37 171 = some (.iaload, []) := by decide +kernel
theorem kc_37_172 : xe_code 37 172 = some (.aload_n 0, []) := by decide +kernel
theorem kc_37_173 : xe_code 37 173 = some (.getfield 93, [12, 31, 978]) := by decide +kernel
theorem kc_37_176 : xe_code 37 176 = some (.iload 4, []) := by decide +kernel
theorem kc_37_178 : xe_code 37 178 = some (.iaload, []) := by decide +kernel
theorem kc_37_179 : xe_code 37 179 = some (.aload_n 0, []) := by decide +kernel
theorem kc_37_180 : xe_code 37 180 = some (.getfield 53, [12, 16, 963]) := by decide +kernel
theorem kc_37_183 : xe_code 37 183 = some (.imul, []) := by decide +kernel
theorem kc_37_184 : xe_code 37 184 = some (.bipush 99, []) := by decide +kernel
theorem kc_37_186 : xe_code 37 186 = some (.iadd, []) := by decide +kernel
theorem kc_37_187 : xe_code 37 187 = some (.bipush 100, []) := by decide +kernel
theorem kc_37_189 : xe_code 37 189 = some (.idiv, []) := by decide +kernel
theorem kc_37_190 : xe_code 37 190 = some (.isub, []) := by decide +kernel
theorem kc_37_191 : xe_code 37 191 = some (.iastore, []) := by decide +kernel
theorem kc_37_192 : xe_code 37 192 = some (.iinc 4 1, []) := by decide +kernel
theorem kc_37_195 : xe_code 37 195 = some (.goto (-38), [157]) := by decide +kernel
theorem kc_37_198 : xe_code 37 198 = some (.return_, []) := by decide +kernel
theorem kc_38_0 : xe_code 38 0 = some (.aload_n 0, []) := by decide +kernel
theorem kc_38_1 : xe_code 38 1 = some (.getfield 90, [12, 30, 977]) := by decide +kernel
theorem kc_38_4 : xe_code 38 4 = some (.iload_n 1, []) := by decide +kernel
theorem kc_38_5 : xe_code 38 5 = some (.iaload, []) := by decide +kernel
theorem kc_38_6 : xe_code 38 6 = some (.aload_n 0, []) := by decide +kernel
theorem kc_38_7 : xe_code 38 7 = some (.getfield 28, [12, 8, 955]) := by decide +kernel
theorem kc_38_10 : xe_code 38 10 = some (.bipush 24, []) := by decide +kernel
theorem kc_38_12 : xe_code 38 12 = some (.iload_n 1, []) := by decide +kernel
theorem kc_38_13 : xe_code 38 13 = some (.imul, []) := by decide +kernel
theorem kc_38_14 : xe_code 38 14 = some (.iload 4, []) := by decide +kernel
theorem kc_38_16 : xe_code 38 16 = some (.bipush 24, []) := by decide +kernel
theorem kc_38_18 : xe_code 38 18 = some (.irem, []) := by decide +kernel
theorem kc_38_19 : xe_code 38 19 = some (.iadd, []) := by decide +kernel
theorem kc_38_20 : xe_code 38 20 = some (.iaload, []) := by decide +kernel
theorem kc_38_21 : xe_code 38 21 = some (.iadd, []) := by decide +kernel
theorem kc_38_22 : xe_code 38 22 = some (.istore 5, []) := by decide +kernel
theorem kc_38_24 : xe_code 38 24 = some (.iconst 0, []) := by decide +kernel
theorem kc_38_25 : xe_code 38 25 = some (.istore 6, []) := by decide +kernel
theorem kc_38_27 : xe_code 38 27 = some (.iload 6, []) := by decide +kernel
theorem kc_38_29 : xe_code 38 29 = some (.aload_n 0, []) := by decide +kernel
theorem kc_38_30 : xe_code 38 30 = some (.getfield 225, [12, 23, 970]) := by decide +kernel
theorem kc_38_33 : xe_code 38 33 = some (.if_icmp .ge 60, [93]) := by decide +kernel
