/-! The fresh objects: what the constructors leave (cells 0 .. 114 the class, 115 .. 166 the reference, 167 the law's own row) -/
def hlc_0 : xe_E := .inr (0, [.ref 1, .ref 63, .ref 66, .ref 75, .ref 80, .ref 85, .ref 93, .ref 94, .int 0, .int 0])
def hlc_1 : xe_E := .inr (4, [.ref 2, .ref 3, .ref 4, .ref 5, .ref 8, .int 0, .int 4])
def hlc_2 : xe_E := .inl (3, .inr (.inr ([some 11, some 14, some 17, some 20, some 23, some 26])))
def hlc_3 : xe_E := .inl (4, .inr (.inr ([some 29, some 31, some 33, some 35, some 37, some 39, some 41, some 43, some 45, some 47, some 49, some 51])))
def hlc_4 : xe_E := .inl (5, .inr (.inr ([some 53, some 54, some 55, some 56, some 57, some 58, some 59, some 60, some 61, some 62])))
def hlc_5 : xe_E := .inr (8, [.int 5, .ref 6, .ref 7])
def hlc_6 : xe_E := .inl (0, .inl (List.replicate 601 99))
def hlc_7 : xe_E := .inl (0, .inl (List.replicate 601 5))
def hlc_8 : xe_E := .inr (8, [.int 0, .ref 9, .ref 10])
def hlc_9 : xe_E := .inl (0, .inl (List.replicate 601 99))
def hlc_10 : xe_E := .inl (0, .inl (List.replicate 601 0))
def hlc_11 : xe_E := .inr (7, [.ref 12, .ref 13])
def hlc_12 : xe_E := .inl (0, .inl ([40, 18, 10, 0, 0]))
def hlc_13 : xe_E := .inl (0, .inl (List.replicate 24 0))
def hlc_14 : xe_E := .inr (7, [.ref 15, .ref 16])
def hlc_15 : xe_E := .inl (0, .inl ([40, 18, 10, 0, 0]))
def hlc_16 : xe_E := .inl (0, .inl (List.replicate 24 0))
def hlc_17 : xe_E := .inr (7, [.ref 18, .ref 19])
def hlc_18 : xe_E := .inl (0, .inl ([40, 18, 10, 0, 0]))
def hlc_19 : xe_E := .inl (0, .inl (List.replicate 24 0))
def hlc_20 : xe_E := .inr (7, [.ref 21, .ref 22])
def hlc_21 : xe_E := .inl (0, .inl ([40, 18, 10, 0, 0]))
def hlc_22 : xe_E := .inl (0, .inl (List.replicate 24 0))
def hlc_23 : xe_E := .inr (7, [.ref 24, .ref 25])
def hlc_24 : xe_E := .inl (0, .inl ([40, 18, 10, 0, 0]))
def hlc_25 : xe_E := .inl (0, .inl (List.replicate 24 0))
def hlc_26 : xe_E := .inr (7, [.ref 27, .ref 28])
def hlc_27 : xe_E := .inl (0, .inl ([40, 18, 10, 0, 0]))
def hlc_28 : xe_E := .inl (0, .inl (List.replicate 24 0))
def hlc_29 : xe_E := .inr (11, [.int (-9), .int 0, .int 0, .int 0, .ref 30])
def hlc_30 : xe_E := .inl (0, .inl (List.replicate 600 0))
def hlc_31 : xe_E := .inr (11, [.int (-9), .int 0, .int 0, .int 0, .ref 32])
def hlc_32 : xe_E := .inl (0, .inl (List.replicate 600 0))
def hlc_33 : xe_E := .inr (11, [.int (-9), .int 0, .int 0, .int 0, .ref 34])
def hlc_34 : xe_E := .inl (0, .inl (List.replicate 600 0))
def hlc_35 : xe_E := .inr (11, [.int (-9), .int 0, .int 0, .int 0, .ref 36])
def hlc_36 : xe_E := .inl (0, .inl (List.replicate 600 0))
def hlc_37 : xe_E := .inr (11, [.int (-9), .int 0, .int 0, .int 0, .ref 38])
def hlc_38 : xe_E := .inl (0, .inl (List.replicate 600 0))
def hlc_39 : xe_E := .inr (11, [.int (-9), .int 0, .int 0, .int 0, .ref 40])
def hlc_40 : xe_E := .inl (0, .inl (List.replicate 600 0))
def hlc_41 : xe_E := .inr (11, [.int (-9), .int 0, .int 0, .int 0, .ref 42])
def hlc_42 : xe_E := .inl (0, .inl (List.replicate 600 0))
def hlc_43 : xe_E := .inr (11, [.int (-9), .int 0, .int 0, .int 0, .ref 44])
def hlc_44 : xe_E := .inl (0, .inl (List.replicate 600 0))
def hlc_45 : xe_E := .inr (11, [.int (-9), .int 0, .int 0, .int 0, .ref 46])
def hlc_46 : xe_E := .inl (0, .inl (List.replicate 600 0))
def hlc_47 : xe_E := .inr (11, [.int (-9), .int 0, .int 0, .int 0, .ref 48])
def hlc_48 : xe_E := .inl (0, .inl (List.replicate 600 0))
def hlc_49 : xe_E := .inr (11, [.int (-9), .int 0, .int 0, .int 0, .ref 50])
def hlc_50 : xe_E := .inl (0, .inl (List.replicate 600 0))
def hlc_51 : xe_E := .inr (11, [.int (-9), .int 0, .int 0, .int 0, .ref 52])
def hlc_52 : xe_E := .inl (0, .inl (List.replicate 600 0))
def hlc_53 : xe_E := .inr (1, [.int 0, .int 0, .int 0, .int 0])
def hlc_54 : xe_E := .inr (1, [.int 0, .int 0, .int 0, .int 0])
def hlc_55 : xe_E := .inr (1, [.int 0, .int 0, .int 0, .int 0])
def hlc_56 : xe_E := .inr (1, [.int 0, .int 0, .int 0, .int 0])
def hlc_57 : xe_E := .inr (1, [.int 0, .int 0, .int 0, .int 0])
def hlc_58 : xe_E := .inr (1, [.int 0, .int 0, .int 0, .int 0])
def hlc_59 : xe_E := .inr (1, [.int 0, .int 0, .int 0, .int 0])
def hlc_60 : xe_E := .inr (1, [.int 0, .int 0, .int 0, .int 0])
def hlc_61 : xe_E := .inr (1, [.int 0, .int 0, .int 0, .int 0])
def hlc_62 : xe_E := .inr (1, [.int 0, .int 0, .int 0, .int 0])
def hlc_63 : xe_E := .inr (9, [.ref 64, .ref 65, .int 0, .int 63])
def hlc_64 : xe_E := .inl (0, .inl (List.replicate 6 0))
def hlc_65 : xe_E := .inl (0, .inl (List.replicate 12 0))
def hlc_66 : xe_E := .inr (3, [.ref 1, .ref 67, .ref 70, .ref 71, .ref 72, .ref 73, .ref 74, .long 0, .int 0])
def hlc_67 : xe_E := .inr (9, [.ref 68, .ref 69, .int 0, .int 0])
def hlc_68 : xe_E := .inl (0, .inl (List.replicate 6 0))
def hlc_69 : xe_E := .inl (0, .inl (List.replicate 12 0))
def hlc_70 : xe_E := .inl (0, .inl (List.replicate 60 0))
def hlc_71 : xe_E := .inl (0, .inl (List.replicate 60 0))
def hlc_72 : xe_E := .inl (0, .inl (List.replicate 60 0))
def hlc_73 : xe_E := .inl (0, .inl (List.replicate 60 0))
def hlc_74 : xe_E := .inl (1, .inr (.inl (List.replicate 64 0)))
def hlc_75 : xe_E := .inr (6, [.ref 76, .ref 77, .ref 78, .ref 79, .int 0])
def hlc_76 : xe_E := .inl (1, .inr (.inl (List.replicate 8 0)))
def hlc_77 : xe_E := .inl (0, .inl (List.replicate 8 0))
def hlc_78 : xe_E := .inl (0, .inl (List.replicate 6561 0))
def hlc_79 : xe_E := .inl (0, .inl (List.replicate 8 0))
def hlc_80 : xe_E := .inr (2, [.ref 81, .ref 82, .ref 83, .ref 84])
def hlc_81 : xe_E := .inl (0, .inl (List.replicate 24 0))
def hlc_82 : xe_E := .inl (0, .inl (List.replicate 24 0))
def hlc_83 : xe_E := .inl (0, .inl (List.replicate 24 2))
def hlc_84 : xe_E := .inl (0, .inl (List.replicate 16 0))
def hlc_85 : xe_E := .inr (5, [.ref 86, .ref 87, .ref 88, .ref 89, .ref 90, .ref 91, .ref 92, .int 0, .int 0])
def hlc_86 : xe_E := .inl (0, .inl (List.replicate 12 0))
def hlc_87 : xe_E := .inl (0, .inl (List.replicate 12 0))
def hlc_88 : xe_E := .inl (0, .inl (List.replicate 12 0))
def hlc_89 : xe_E := .inl (0, .inl (List.replicate 12 0))
def hlc_90 : xe_E := .inl (0, .inl (List.replicate 4 0))
def hlc_91 : xe_E := .inl (0, .inl (List.replicate 4 0))
def hlc_92 : xe_E := .inl (0, .inl (List.replicate 4 (-9)))
def hlc_93 : xe_E := .inl (6, .inr (.inr ([some 95, some 96, some 97, some 98, some 99, some 100, some 101, some 102, some 103, some 104, some 105, some 106, some 107, some 108, some 109, some 110, some 111, some 112, some 113, some 114])))
def hlc_94 : xe_E := .inl (0, .inl (List.replicate 7 0))
def hlc_95 : xe_E := .inr (10, [.int 0, .int 0, .int 0, .int 0, .int 0, .int 0])
def hlc_96 : xe_E := .inr (10, [.int 0, .int 0, .int 0, .int 0, .int 0, .int 0])
def hlc_97 : xe_E := .inr (10, [.int 0, .int 0, .int 0, .int 0, .int 0, .int 0])
def hlc_98 : xe_E := .inr (10, [.int 0, .int 0, .int 0, .int 0, .int 0, .int 0])
def hlc_99 : xe_E := .inr (10, [.int 0, .int 0, .int 0, .int 0, .int 0, .int 0])
def hlc_100 : xe_E := .inr (10, [.int 0, .int 0, .int 0, .int 0, .int 0, .int 0])
def hlc_101 : xe_E := .inr (10, [.int 0, .int 0, .int 0, .int 0, .int 0, .int 0])
def hlc_102 : xe_E := .inr (10, [.int 0, .int 0, .int 0, .int 0, .int 0, .int 0])
def hlc_103 : xe_E := .inr (10, [.int 0, .int 0, .int 0, .int 0, .int 0, .int 0])
def hlc_104 : xe_E := .inr (10, [.int 0, .int 0, .int 0, .int 0, .int 0, .int 0])
def hlc_105 : xe_E := .inr (10, [.int 0, .int 0, .int 0, .int 0, .int 0, .int 0])
def hlc_106 : xe_E := .inr (10, [.int 0, .int 0, .int 0, .int 0, .int 0, .int 0])
def hlc_107 : xe_E := .inr (10, [.int 0, .int 0, .int 0, .int 0, .int 0, .int 0])
def hlc_108 : xe_E := .inr (10, [.int 0, .int 0, .int 0, .int 0, .int 0, .int 0])
def hlc_109 : xe_E := .inr (10, [.int 0, .int 0, .int 0, .int 0, .int 0, .int 0])
def hlc_110 : xe_E := .inr (10, [.int 0, .int 0, .int 0, .int 0, .int 0, .int 0])
def hlc_111 : xe_E := .inr (10, [.int 0, .int 0, .int 0, .int 0, .int 0, .int 0])
def hlc_112 : xe_E := .inr (10, [.int 0, .int 0, .int 0, .int 0, .int 0, .int 0])
def hlc_113 : xe_E := .inr (10, [.int 0, .int 0, .int 0, .int 0, .int 0, .int 0])
def hlc_114 : xe_E := .inr (10, [.int 0, .int 0, .int 0, .int 0, .int 0, .int 0])
def hlc_115 : xe_E := .inr (12, [.int 0, .int 0, .ref 116, .ref 117, .ref 118, .ref 119, .ref 120, .ref 121, .ref 122, .ref 123, .ref 124, .ref 125, .ref 126, .ref 127, .ref 128, .ref 129, .int 4, .ref 130, .int 0, .ref 131, .ref 132, .ref 133, .ref 134, .int 0, .ref 135, .ref 136, .ref 137, .ref 138, .ref 139, .ref 140, .ref 141, .ref 142, .int 0, .int 0, .int 0, .ref 143, .ref 144, .ref 145, .ref 146, .ref 147, .ref 148, .int 0, .ref 149, .ref 150, .ref 151, .int 0, .ref 152, .ref 153, .ref 154, .ref 155, .ref 156, .ref 157, .ref 158, .ref 159, .int 0, .ref 160, .int 0, .ref 161, .ref 162, .ref 163, .ref 164, .int 0, .ref 165, .ref 166])
def hlc_116 : xe_E := .inl (0, .inl (List.replicate 6 40))
def hlc_117 : xe_E := .inl (0, .inl (List.replicate 6 18))
def hlc_118 : xe_E := .inl (0, .inl (List.replicate 6 10))
def hlc_119 : xe_E := .inl (0, .inl (List.replicate 6 0))
def hlc_120 : xe_E := .inl (0, .inl (List.replicate 6 0))
def hlc_121 : xe_E := .inl (0, .inl (List.replicate 6 0))
def hlc_122 : xe_E := .inl (0, .inl (List.replicate 144 0))
def hlc_123 : xe_E := .inl (0, .inl (List.replicate 600 99))
def hlc_124 : xe_E := .inl (0, .inl (List.replicate 600 99))
def hlc_125 : xe_E := .inl (0, .inl (List.replicate 12 (-9)))
def hlc_126 : xe_E := .inl (0, .inl (List.replicate 12 0))
def hlc_127 : xe_E := .inl (2, .inl (List.replicate 12 0))
def hlc_128 : xe_E := .inl (0, .inl (List.replicate 12 0))
def hlc_129 : xe_E := .inl (0, .inl (List.replicate 12 0))
def hlc_130 : xe_E := .inl (0, .inl (List.replicate 7200 0))
def hlc_131 : xe_E := .inl (0, .inl (List.replicate 60 0))
def hlc_132 : xe_E := .inl (0, .inl (List.replicate 60 0))
def hlc_133 : xe_E := .inl (0, .inl (List.replicate 60 0))
def hlc_134 : xe_E := .inl (0, .inl (List.replicate 60 0))
def hlc_135 : xe_E := .inl (0, .inl (List.replicate 10 0))
def hlc_136 : xe_E := .inl (0, .inl (List.replicate 10 0))
def hlc_137 : xe_E := .inl (0, .inl (List.replicate 10 0))
def hlc_138 : xe_E := .inl (0, .inl (List.replicate 10 0))
def hlc_139 : xe_E := .inl (2, .inl (List.replicate 10 0))
def hlc_140 : xe_E := .inl (0, .inl (List.replicate 7 0))
def hlc_141 : xe_E := .inl (0, .inl (List.replicate 6 0))
def hlc_142 : xe_E := .inl (0, .inl (List.replicate 12 0))
def hlc_143 : xe_E := .inl (0, .inl (List.replicate 20 0))
def hlc_144 : xe_E := .inl (0, .inl (List.replicate 20 0))
def hlc_145 : xe_E := .inl (0, .inl (List.replicate 20 0))
def hlc_146 : xe_E := .inl (0, .inl (List.replicate 20 0))
def hlc_147 : xe_E := .inl (0, .inl (List.replicate 20 0))
def hlc_148 : xe_E := .inl (0, .inl (List.replicate 20 0))
def hlc_149 : xe_E := .inl (1, .inr (.inl (List.replicate 64 0)))
def hlc_150 : xe_E := .inl (0, .inl (List.replicate 600 0))
def hlc_151 : xe_E := .inl (0, .inl (List.replicate 600 0))
def hlc_152 : xe_E := .inl (0, .inl (List.replicate 8 0))
def hlc_153 : xe_E := .inl (0, .inl (List.replicate 8 0))
def hlc_154 : xe_E := .inl (0, .inl (List.replicate 8 0))
def hlc_155 : xe_E := .inl (0, .inl (List.replicate 6561 0))
def hlc_156 : xe_E := .inl (0, .inl (List.replicate 24 0))
def hlc_157 : xe_E := .inl (0, .inl (List.replicate 24 0))
def hlc_158 : xe_E := .inl (0, .inl (List.replicate 24 2))
def hlc_159 : xe_E := .inl (0, .inl (List.replicate 24 0))
def hlc_160 : xe_E := .inl (0, .inl (List.replicate 24 0))
def hlc_161 : xe_E := .inl (0, .inl (List.replicate 12 0))
def hlc_162 : xe_E := .inl (0, .inl (List.replicate 12 0))
def hlc_163 : xe_E := .inl (0, .inl (List.replicate 12 0))
def hlc_164 : xe_E := .inl (0, .inl (List.replicate 12 0))
def hlc_165 : xe_E := .inl (0, .inl (List.replicate 8 (-1)))
def hlc_166 : xe_E := .inl (0, .inl (List.replicate 4 (-1)))
def hlc_167 : xe_E := .inl (1, .inr (.inl (List.replicate 1 0)))
def hL : xe_H := [hlc_0, hlc_1, hlc_2, hlc_3, hlc_4, hlc_5, hlc_6, hlc_7, hlc_8, hlc_9, hlc_10, hlc_11, hlc_12, hlc_13, hlc_14, hlc_15, hlc_16, hlc_17, hlc_18, hlc_19, hlc_20, hlc_21, hlc_22, hlc_23, hlc_24, hlc_25, hlc_26, hlc_27, hlc_28, hlc_29, hlc_30, hlc_31, hlc_32, hlc_33, hlc_34, hlc_35, hlc_36, hlc_37, hlc_38, hlc_39, hlc_40, hlc_41, hlc_42, hlc_43, hlc_44, hlc_45, hlc_46, hlc_47, hlc_48, hlc_49, hlc_50, hlc_51, hlc_52, hlc_53, hlc_54, hlc_55, hlc_56, hlc_57, hlc_58, hlc_59, hlc_60, hlc_61, hlc_62, hlc_63, hlc_64, hlc_65, hlc_66, hlc_67, hlc_68, hlc_69, hlc_70, hlc_71, hlc_72, hlc_73, hlc_74, hlc_75, hlc_76, hlc_77, hlc_78, hlc_79, hlc_80, hlc_81, hlc_82, hlc_83, hlc_84, hlc_85, hlc_86, hlc_87, hlc_88, hlc_89, hlc_90, hlc_91, hlc_92, hlc_93, hlc_94, hlc_95, hlc_96, hlc_97, hlc_98, hlc_99, hlc_100, hlc_101, hlc_102, hlc_103, hlc_104, hlc_105, hlc_106, hlc_107, hlc_108, hlc_109, hlc_110, hlc_111, hlc_112, hlc_113, hlc_114, hlc_115, hlc_116, hlc_117, hlc_118, hlc_119, hlc_120, hlc_121, hlc_122, hlc_123, hlc_124, hlc_125, hlc_126, hlc_127, hlc_128, hlc_129, hlc_130, hlc_131, hlc_132, hlc_133, hlc_134, hlc_135, hlc_136, hlc_137, hlc_138, hlc_139, hlc_140, hlc_141, hlc_142, hlc_143, hlc_144, hlc_145, hlc_146, hlc_147, hlc_148, hlc_149, hlc_150, hlc_151, hlc_152, hlc_153, hlc_154, hlc_155, hlc_156, hlc_157, hlc_158, hlc_159, hlc_160, hlc_161, hlc_162, hlc_163, hlc_164, hlc_165, hlc_166, hlc_167]
def xf_fr (h : xe_H) : Prop := ∀ (k : Nat) (x : xe_E), hL[k]? = some x → h[k]? = some x
def xf_Q (r : Option Value) (h : xe_H) : Prop := r = some (.int 1) ∧ h.length ≤ 600002 ∧ xe_sz h ≤ 7302232
theorem xm_lt {mi k K : Nat} (e : xe_mL mi = K) (h : Nat.blt k K = true) : k < xe_mL mi := by rw [e]; exact Nat.le_of_ble_eq_true h
theorem xm_le {mi k K : Nat} (e : xe_mL mi = K) (h : Nat.ble k K = true) : k ≤ xe_mL mi := by rw [e]; exact Nat.le_of_ble_eq_true h
theorem xl_lenO {ov : List (List Int32)} {h : xe_H} {a n : Nat} {x : List Int32} (ha : ¬ a < xe_o) (e : ov[a - xe_o]? = some x) (hn : x.length = n) : xe_alen ov h a = some n := by
  unfold xe_alen
  rw [if_neg ha, e]
  exact congrArg some hn
theorem xl_lenI {ov : List (List Int32)} {h : xe_H} {a n t : Nat} {x : List Int32} (ha : a < xe_o) (ht : t < xe_ty.length) (e : h[a]? = some (.inl (t, .inl x))) (hn : x.length = n) : xe_alen ov h a = some n := by
  unfold xe_alen
  rw [if_pos ha, e]
  exact (if_pos ht).trans (congrArg some hn)
theorem hl_0 : hL[0]? = some (.inr (0, [.ref 1, .ref 63, .ref 66, .ref 75, .ref 80, .ref 85, .ref 93, .ref 94, .int 0, .int 0])) := rfl
theorem hl_1 : hL[1]? = some (.inr (4, [.ref 2, .ref 3, .ref 4, .ref 5, .ref 8, .int 0, .int 4])) := rfl
theorem hl_2 : hL[2]? = some (.inl (3, .inr (.inr ([some 11, some 14, some 17, some 20, some 23, some 26])))) := rfl
theorem hl_3 : hL[3]? = some (.inl (4, .inr (.inr ([some 29, some 31, some 33, some 35, some 37, some 39, some 41, some 43, some 45, some 47, some 49, some 51])))) := rfl
theorem hl_4 : hL[4]? = some (.inl (5, .inr (.inr ([some 53, some 54, some 55, some 56, some 57, some 58, some 59, some 60, some 61, some 62])))) := rfl
theorem hl_5 : hL[5]? = some (.inr (8, [.int 5, .ref 6, .ref 7])) := rfl
theorem hl_6 : hL[6]? = some (.inl (0, .inl (List.replicate 601 99))) := rfl
theorem hl_7 : hL[7]? = some (.inl (0, .inl (List.replicate 601 5))) := rfl
theorem hl_8 : hL[8]? = some (.inr (8, [.int 0, .ref 9, .ref 10])) := rfl
theorem hl_9 : hL[9]? = some (.inl (0, .inl (List.replicate 601 99))) := rfl
theorem hl_10 : hL[10]? = some (.inl (0, .inl (List.replicate 601 0))) := rfl
theorem hl_11 : hL[11]? = some (.inr (7, [.ref 12, .ref 13])) := rfl
theorem hl_12 : hL[12]? = some (.inl (0, .inl ([40, 18, 10, 0, 0]))) := rfl
theorem hl_13 : hL[13]? = some (.inl (0, .inl (List.replicate 24 0))) := rfl
theorem hl_14 : hL[14]? = some (.inr (7, [.ref 15, .ref 16])) := rfl
theorem hl_15 : hL[15]? = some (.inl (0, .inl ([40, 18, 10, 0, 0]))) := rfl
theorem hl_16 : hL[16]? = some (.inl (0, .inl (List.replicate 24 0))) := rfl
theorem hl_17 : hL[17]? = some (.inr (7, [.ref 18, .ref 19])) := rfl
theorem hl_18 : hL[18]? = some (.inl (0, .inl ([40, 18, 10, 0, 0]))) := rfl
theorem hl_19 : hL[19]? = some (.inl (0, .inl (List.replicate 24 0))) := rfl
theorem hl_20 : hL[20]? = some (.inr (7, [.ref 21, .ref 22])) := rfl
theorem hl_21 : hL[21]? = some (.inl (0, .inl ([40, 18, 10, 0, 0]))) := rfl
theorem hl_22 : hL[22]? = some (.inl (0, .inl (List.replicate 24 0))) := rfl
theorem hl_23 : hL[23]? = some (.inr (7, [.ref 24, .ref 25])) := rfl
theorem hl_24 : hL[24]? = some (.inl (0, .inl ([40, 18, 10, 0, 0]))) := rfl
theorem hl_25 : hL[25]? = some (.inl (0, .inl (List.replicate 24 0))) := rfl
theorem hl_26 : hL[26]? = some (.inr (7, [.ref 27, .ref 28])) := rfl
theorem hl_27 : hL[27]? = some (.inl (0, .inl ([40, 18, 10, 0, 0]))) := rfl
theorem hl_28 : hL[28]? = some (.inl (0, .inl (List.replicate 24 0))) := rfl
theorem hl_29 : hL[29]? = some (.inr (11, [.int (-9), .int 0, .int 0, .int 0, .ref 30])) := rfl
theorem hl_30 : hL[30]? = some (.inl (0, .inl (List.replicate 600 0))) := rfl
theorem hl_31 : hL[31]? = some (.inr (11, [.int (-9), .int 0, .int 0, .int 0, .ref 32])) := rfl
theorem hl_32 : hL[32]? = some (.inl (0, .inl (List.replicate 600 0))) := rfl
theorem hl_33 : hL[33]? = some (.inr (11, [.int (-9), .int 0, .int 0, .int 0, .ref 34])) := rfl
theorem hl_34 : hL[34]? = some (.inl (0, .inl (List.replicate 600 0))) := rfl
theorem hl_35 : hL[35]? = some (.inr (11, [.int (-9), .int 0, .int 0, .int 0, .ref 36])) := rfl
theorem hl_36 : hL[36]? = some (.inl (0, .inl (List.replicate 600 0))) := rfl
theorem hl_37 : hL[37]? = some (.inr (11, [.int (-9), .int 0, .int 0, .int 0, .ref 38])) := rfl
theorem hl_38 : hL[38]? = some (.inl (0, .inl (List.replicate 600 0))) := rfl
theorem hl_39 : hL[39]? = some (.inr (11, [.int (-9), .int 0, .int 0, .int 0, .ref 40])) := rfl
theorem hl_40 : hL[40]? = some (.inl (0, .inl (List.replicate 600 0))) := rfl
theorem hl_41 : hL[41]? = some (.inr (11, [.int (-9), .int 0, .int 0, .int 0, .ref 42])) := rfl
theorem hl_42 : hL[42]? = some (.inl (0, .inl (List.replicate 600 0))) := rfl
theorem hl_43 : hL[43]? = some (.inr (11, [.int (-9), .int 0, .int 0, .int 0, .ref 44])) := rfl
theorem hl_44 : hL[44]? = some (.inl (0, .inl (List.replicate 600 0))) := rfl
theorem hl_45 : hL[45]? = some (.inr (11, [.int (-9), .int 0, .int 0, .int 0, .ref 46])) := rfl
theorem hl_46 : hL[46]? = some (.inl (0, .inl (List.replicate 600 0))) := rfl
theorem hl_47 : hL[47]? = some (.inr (11, [.int (-9), .int 0, .int 0, .int 0, .ref 48])) := rfl
theorem hl_48 : hL[48]? = some (.inl (0, .inl (List.replicate 600 0))) := rfl
theorem hl_49 : hL[49]? = some (.inr (11, [.int (-9), .int 0, .int 0, .int 0, .ref 50])) := rfl
theorem hl_50 : hL[50]? = some (.inl (0, .inl (List.replicate 600 0))) := rfl
theorem hl_51 : hL[51]? = some (.inr (11, [.int (-9), .int 0, .int 0, .int 0, .ref 52])) := rfl
theorem hl_52 : hL[52]? = some (.inl (0, .inl (List.replicate 600 0))) := rfl
theorem hl_53 : hL[53]? = some (.inr (1, [.int 0, .int 0, .int 0, .int 0])) := rfl
theorem hl_54 : hL[54]? = some (.inr (1, [.int 0, .int 0, .int 0, .int 0])) := rfl
theorem hl_55 : hL[55]? = some (.inr (1, [.int 0, .int 0, .int 0, .int 0])) := rfl
theorem hl_56 : hL[56]? = some (.inr (1, [.int 0, .int 0, .int 0, .int 0])) := rfl
theorem hl_57 : hL[57]? = some (.inr (1, [.int 0, .int 0, .int 0, .int 0])) := rfl
theorem hl_58 : hL[58]? = some (.inr (1, [.int 0, .int 0, .int 0, .int 0])) := rfl
theorem hl_59 : hL[59]? = some (.inr (1, [.int 0, .int 0, .int 0, .int 0])) := rfl
theorem hl_60 : hL[60]? = some (.inr (1, [.int 0, .int 0, .int 0, .int 0])) := rfl
theorem hl_61 : hL[61]? = some (.inr (1, [.int 0, .int 0, .int 0, .int 0])) := rfl
theorem hl_62 : hL[62]? = some (.inr (1, [.int 0, .int 0, .int 0, .int 0])) := rfl
theorem hl_63 : hL[63]? = some (.inr (9, [.ref 64, .ref 65, .int 0, .int 63])) := rfl
theorem hl_64 : hL[64]? = some (.inl (0, .inl (List.replicate 6 0))) := rfl
theorem hl_65 : hL[65]? = some (.inl (0, .inl (List.replicate 12 0))) := rfl
theorem hl_66 : hL[66]? = some (.inr (3, [.ref 1, .ref 67, .ref 70, .ref 71, .ref 72, .ref 73, .ref 74, .long 0, .int 0])) := rfl
theorem hl_67 : hL[67]? = some (.inr (9, [.ref 68, .ref 69, .int 0, .int 0])) := rfl
theorem hl_68 : hL[68]? = some (.inl (0, .inl (List.replicate 6 0))) := rfl
theorem hl_69 : hL[69]? = some (.inl (0, .inl (List.replicate 12 0))) := rfl
theorem hl_70 : hL[70]? = some (.inl (0, .inl (List.replicate 60 0))) := rfl
theorem hl_71 : hL[71]? = some (.inl (0, .inl (List.replicate 60 0))) := rfl
theorem hl_72 : hL[72]? = some (.inl (0, .inl (List.replicate 60 0))) := rfl
theorem hl_73 : hL[73]? = some (.inl (0, .inl (List.replicate 60 0))) := rfl
theorem hl_74 : hL[74]? = some (.inl (1, .inr (.inl (List.replicate 64 0)))) := rfl
theorem hl_75 : hL[75]? = some (.inr (6, [.ref 76, .ref 77, .ref 78, .ref 79, .int 0])) := rfl
theorem hl_76 : hL[76]? = some (.inl (1, .inr (.inl (List.replicate 8 0)))) := rfl
theorem hl_77 : hL[77]? = some (.inl (0, .inl (List.replicate 8 0))) := rfl
theorem hl_78 : hL[78]? = some (.inl (0, .inl (List.replicate 6561 0))) := rfl
theorem hl_79 : hL[79]? = some (.inl (0, .inl (List.replicate 8 0))) := rfl
theorem hl_80 : hL[80]? = some (.inr (2, [.ref 81, .ref 82, .ref 83, .ref 84])) := rfl
theorem hl_81 : hL[81]? = some (.inl (0, .inl (List.replicate 24 0))) := rfl
theorem hl_82 : hL[82]? = some (.inl (0, .inl (List.replicate 24 0))) := rfl
theorem hl_83 : hL[83]? = some (.inl (0, .inl (List.replicate 24 2))) := rfl
theorem hl_84 : hL[84]? = some (.inl (0, .inl (List.replicate 16 0))) := rfl
theorem hl_85 : hL[85]? = some (.inr (5, [.ref 86, .ref 87, .ref 88, .ref 89, .ref 90, .ref 91, .ref 92, .int 0, .int 0])) := rfl
theorem hl_86 : hL[86]? = some (.inl (0, .inl (List.replicate 12 0))) := rfl
theorem hl_87 : hL[87]? = some (.inl (0, .inl (List.replicate 12 0))) := rfl
theorem hl_88 : hL[88]? = some (.inl (0, .inl (List.replicate 12 0))) := rfl
theorem hl_89 : hL[89]? = some (.inl (0, .inl (List.replicate 12 0))) := rfl
theorem hl_90 : hL[90]? = some (.inl (0, .inl (List.replicate 4 0))) := rfl
theorem hl_91 : hL[91]? = some (.inl (0, .inl (List.replicate 4 0))) := rfl
theorem hl_92 : hL[92]? = some (.inl (0, .inl (List.replicate 4 (-9)))) := rfl
theorem hl_93 : hL[93]? = some (.inl (6, .inr (.inr ([some 95, some 96, some 97, some 98, some 99, some 100, some 101, some 102, some 103, some 104, some 105, some 106, some 107, some 108, some 109, some 110, some 111, some 112, some 113, some 114])))) := rfl
theorem hl_94 : hL[94]? = some (.inl (0, .inl (List.replicate 7 0))) := rfl
theorem hl_95 : hL[95]? = some (.inr (10, [.int 0, .int 0, .int 0, .int 0, .int 0, .int 0])) := rfl
theorem hl_96 : hL[96]? = some (.inr (10, [.int 0, .int 0, .int 0, .int 0, .int 0, .int 0])) := rfl
theorem hl_97 : hL[97]? = some (.inr (10, [.int 0, .int 0, .int 0, .int 0, .int 0, .int 0])) := rfl
theorem hl_98 : hL[98]? = some (.inr (10, [.int 0, .int 0, .int 0, .int 0, .int 0, .int 0])) := rfl
theorem hl_99 : hL[99]? = some (.inr (10, [.int 0, .int 0, .int 0, .int 0, .int 0, .int 0])) := rfl
theorem hl_100 : hL[100]? = some (.inr (10, [.int 0, .int 0, .int 0, .int 0, .int 0, .int 0])) := rfl
theorem hl_101 : hL[101]? = some (.inr (10, [.int 0, .int 0, .int 0, .int 0, .int 0, .int 0])) := rfl
theorem hl_102 : hL[102]? = some (.inr (10, [.int 0, .int 0, .int 0, .int 0, .int 0, .int 0])) := rfl
theorem hl_103 : hL[103]? = some (.inr (10, [.int 0, .int 0, .int 0, .int 0, .int 0, .int 0])) := rfl
theorem hl_104 : hL[104]? = some (.inr (10, [.int 0, .int 0, .int 0, .int 0, .int 0, .int 0])) := rfl
theorem hl_105 : hL[105]? = some (.inr (10, [.int 0, .int 0, .int 0, .int 0, .int 0, .int 0])) := rfl
theorem hl_106 : hL[106]? = some (.inr (10, [.int 0, .int 0, .int 0, .int 0, .int 0, .int 0])) := rfl
theorem hl_107 : hL[107]? = some (.inr (10, [.int 0, .int 0, .int 0, .int 0, .int 0, .int 0])) := rfl
theorem hl_108 : hL[108]? = some (.inr (10, [.int 0, .int 0, .int 0, .int 0, .int 0, .int 0])) := rfl
theorem hl_109 : hL[109]? = some (.inr (10, [.int 0, .int 0, .int 0, .int 0, .int 0, .int 0])) := rfl
theorem hl_110 : hL[110]? = some (.inr (10, [.int 0, .int 0, .int 0, .int 0, .int 0, .int 0])) := rfl
theorem hl_111 : hL[111]? = some (.inr (10, [.int 0, .int 0, .int 0, .int 0, .int 0, .int 0])) := rfl
theorem hl_112 : hL[112]? = some (.inr (10, [.int 0, .int 0, .int 0, .int 0, .int 0, .int 0])) := rfl
theorem hl_113 : hL[113]? = some (.inr (10, [.int 0, .int 0, .int 0, .int 0, .int 0, .int 0])) := rfl
theorem hl_114 : hL[114]? = some (.inr (10, [.int 0, .int 0, .int 0, .int 0, .int 0, .int 0])) := rfl
theorem hl_115 : hL[115]? = some (.inr (12, [.int 0, .int 0, .ref 116, .ref 117, .ref 118, .ref 119, .ref 120, .ref 121, .ref 122, .ref 123, .ref 124, .ref 125, .ref 126, .ref 127, .ref 128, .ref 129, .int 4, .ref 130, .int 0, .ref 131, .ref 132, .ref 133, .ref 134, .int 0, .ref 135, .ref 136, .ref 137, .ref 138, .ref 139, .ref 140, .ref 141, .ref 142, .int 0, .int 0, .int 0, .ref 143, .ref 144, .ref 145, .ref 146, .ref 147, .ref 148, .int 0, .ref 149, .ref 150, .ref 151, .int 0, .ref 152, .ref 153, .ref 154, .ref 155, .ref 156, .ref 157, .ref 158, .ref 159, .int 0, .ref 160, .int 0, .ref 161, .ref 162, .ref 163, .ref 164, .int 0, .ref 165, .ref 166])) := rfl
theorem hl_116 : hL[116]? = some (.inl (0, .inl (List.replicate 6 40))) := rfl
theorem hl_117 : hL[117]? = some (.inl (0, .inl (List.replicate 6 18))) := rfl
theorem hl_118 : hL[118]? = some (.inl (0, .inl (List.replicate 6 10))) := rfl
theorem hl_119 : hL[119]? = some (.inl (0, .inl (List.replicate 6 0))) := rfl
theorem hl_120 : hL[120]? = some (.inl (0, .inl (List.replicate 6 0))) := rfl
theorem hl_121 : hL[121]? = some (.inl (0, .inl (List.replicate 6 0))) := rfl
theorem hl_122 : hL[122]? = some (.inl (0, .inl (List.replicate 144 0))) := rfl
theorem hl_123 : hL[123]? = some (.inl (0, .inl (List.replicate 600 99))) := rfl
theorem hl_124 : hL[124]? = some (.inl (0, .inl (List.replicate 600 99))) := rfl
theorem hl_125 : hL[125]? = some (.inl (0, .inl (List.replicate 12 (-9)))) := rfl
theorem hl_126 : hL[126]? = some (.inl (0, .inl (List.replicate 12 0))) := rfl
theorem hl_127 : hL[127]? = some (.inl (2, .inl (List.replicate 12 0))) := rfl
theorem hl_128 : hL[128]? = some (.inl (0, .inl (List.replicate 12 0))) := rfl
theorem hl_129 : hL[129]? = some (.inl (0, .inl (List.replicate 12 0))) := rfl
theorem hl_130 : hL[130]? = some (.inl (0, .inl (List.replicate 7200 0))) := rfl
theorem hl_131 : hL[131]? = some (.inl (0, .inl (List.replicate 60 0))) := rfl
theorem hl_132 : hL[132]? = some (.inl (0, .inl (List.replicate 60 0))) := rfl
theorem hl_133 : hL[133]? = some (.inl (0, .inl (List.replicate 60 0))) := rfl
theorem hl_134 : hL[134]? = some (.inl (0, .inl (List.replicate 60 0))) := rfl
theorem hl_135 : hL[135]? = some (.inl (0, .inl (List.replicate 10 0))) := rfl
theorem hl_136 : hL[136]? = some (.inl (0, .inl (List.replicate 10 0))) := rfl
theorem hl_137 : hL[137]? = some (.inl (0, .inl (List.replicate 10 0))) := rfl
theorem hl_138 : hL[138]? = some (.inl (0, .inl (List.replicate 10 0))) := rfl
theorem hl_139 : hL[139]? = some (.inl (2, .inl (List.replicate 10 0))) := rfl
theorem hl_140 : hL[140]? = some (.inl (0, .inl (List.replicate 7 0))) := rfl
theorem hl_141 : hL[141]? = some (.inl (0, .inl (List.replicate 6 0))) := rfl
theorem hl_142 : hL[142]? = some (.inl (0, .inl (List.replicate 12 0))) := rfl
theorem hl_143 : hL[143]? = some (.inl (0, .inl (List.replicate 20 0))) := rfl
theorem hl_144 : hL[144]? = some (.inl (0, .inl (List.replicate 20 0))) := rfl
theorem hl_145 : hL[145]? = some (.inl (0, .inl (List.replicate 20 0))) := rfl
theorem hl_146 : hL[146]? = some (.inl (0, .inl (List.replicate 20 0))) := rfl
theorem hl_147 : hL[147]? = some (.inl (0, .inl (List.replicate 20 0))) := rfl
theorem hl_148 : hL[148]? = some (.inl (0, .inl (List.replicate 20 0))) := rfl
theorem hl_149 : hL[149]? = some (.inl (1, .inr (.inl (List.replicate 64 0)))) := rfl
theorem hl_150 : hL[150]? = some (.inl (0, .inl (List.replicate 600 0))) := rfl
theorem hl_151 : hL[151]? = some (.inl (0, .inl (List.replicate 600 0))) := rfl
theorem hl_152 : hL[152]? = some (.inl (0, .inl (List.replicate 8 0))) := rfl
theorem hl_153 : hL[153]? = some (.inl (0, .inl (List.replicate 8 0))) := rfl
theorem hl_154 : hL[154]? = some (.inl (0, .inl (List.replicate 8 0))) := rfl
theorem hl_155 : hL[155]? = some (.inl (0, .inl (List.replicate 6561 0))) := rfl
theorem hl_156 : hL[156]? = some (.inl (0, .inl (List.replicate 24 0))) := rfl
theorem hl_157 : hL[157]? = some (.inl (0, .inl (List.replicate 24 0))) := rfl
theorem hl_158 : hL[158]? = some (.inl (0, .inl (List.replicate 24 2))) := rfl
theorem hl_159 : hL[159]? = some (.inl (0, .inl (List.replicate 24 0))) := rfl
theorem hl_160 : hL[160]? = some (.inl (0, .inl (List.replicate 24 0))) := rfl
theorem hl_161 : hL[161]? = some (.inl (0, .inl (List.replicate 12 0))) := rfl
theorem hl_162 : hL[162]? = some (.inl (0, .inl (List.replicate 12 0))) := rfl
theorem hl_163 : hL[163]? = some (.inl (0, .inl (List.replicate 12 0))) := rfl
theorem hl_164 : hL[164]? = some (.inl (0, .inl (List.replicate 12 0))) := rfl
theorem hl_165 : hL[165]? = some (.inl (0, .inl (List.replicate 8 (-1)))) := rfl
theorem hl_166 : hL[166]? = some (.inl (0, .inl (List.replicate 4 (-1)))) := rfl
theorem hl_167 : hL[167]? = some (.inl (1, .inr (.inl (List.replicate 1 0)))) := rfl
