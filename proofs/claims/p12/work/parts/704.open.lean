/-! Cells opened -/
theorem xcps2 {α : Type} (x : α) {P : Prop} (k : ∀ q : α, x = q → P) : P := k x rfl
theorem xcps4 {α : Type} {p q r : α → Prop} {P : Prop} (e : ∃ a, p a ∧ q a ∧ r a) (k : ∀ a, p a → q a → r a → P) : P :=
  match e with
  | ⟨a, x, y, z⟩ => k a x y z
theorem xD_0 : xT[0]? = some (.inl (0, [.inl (.ref 1), .inl (.ref 63), .inl (.ref 66), .inl (.ref 75), .inl (.ref 80), .inl (.ref 85), .inl (.ref 93), .inl (.ref 94), .inr (some (0, 20)), .inr (some (0, 600))])) := rfl
theorem xD_1 : xT[1]? = some (.inl (4, [.inl (.ref 2), .inl (.ref 3), .inl (.ref 4), .inl (.ref 5), .inl (.ref 8), .inr (some (0, 10)), .inr (some ((-2147483648), 2147483647))])) := rfl
theorem xD_2 : xT[2]? = some (.inr (.inr (.inr (.inl (3, .inr (.inr ([some 11, some 14, some 17, some 20, some 23, some 26]))))))) := rfl
theorem xD_3 : xT[3]? = some (.inr (.inr (.inr (.inl (4, .inr (.inr ([some 29, some 31, some 33, some 35, some 37, some 39, some 41, some 43, some 45, some 47, some 49, some 51]))))))) := rfl
theorem xD_4 : xT[4]? = some (.inr (.inr (.inr (.inl (5, .inr (.inr ([some 53, some 54, some 55, some 56, some 57, some 58, some 59, some 60, some 61, some 62]))))))) := rfl
theorem xD_5 : xT[5]? = some (.inl (8, [.inr (some ((-2147483648), 2147483647)), .inl (.ref 6), .inl (.ref 7)])) := rfl
theorem xD_6 : xT[6]? = some (.inr (.inl (0, 601, (-2147483648), 2147483647))) := rfl
theorem xD_7 : xT[7]? = some (.inr (.inl (0, 601, (-2147483648), 2147483647))) := rfl
theorem xD_8 : xT[8]? = some (.inl (8, [.inr (some ((-2147483648), 2147483647)), .inl (.ref 9), .inl (.ref 10)])) := rfl
theorem xD_9 : xT[9]? = some (.inr (.inl (0, 601, (-2147483648), 2147483647))) := rfl
theorem xD_10 : xT[10]? = some (.inr (.inl (0, 601, (-2147483648), 2147483647))) := rfl
theorem xD_11 : xT[11]? = some (.inl (7, [.inl (.ref 12), .inl (.ref 13)])) := rfl
theorem xD_12 : xT[12]? = some (.inr (.inl (0, 5, (-2147483648), 2147483647))) := rfl
theorem xD_13 : xT[13]? = some (.inr (.inl (0, 24, (-2147483648), 2147483647))) := rfl
theorem xD_14 : xT[14]? = some (.inl (7, [.inl (.ref 15), .inl (.ref 16)])) := rfl
theorem xD_15 : xT[15]? = some (.inr (.inl (0, 5, (-2147483648), 2147483647))) := rfl
theorem xD_16 : xT[16]? = some (.inr (.inl (0, 24, (-2147483648), 2147483647))) := rfl
theorem xD_17 : xT[17]? = some (.inl (7, [.inl (.ref 18), .inl (.ref 19)])) := rfl
theorem xD_18 : xT[18]? = some (.inr (.inl (0, 5, (-2147483648), 2147483647))) := rfl
theorem xD_19 : xT[19]? = some (.inr (.inl (0, 24, (-2147483648), 2147483647))) := rfl
theorem xD_20 : xT[20]? = some (.inl (7, [.inl (.ref 21), .inl (.ref 22)])) := rfl
theorem xD_21 : xT[21]? = some (.inr (.inl (0, 5, (-2147483648), 2147483647))) := rfl
theorem xD_22 : xT[22]? = some (.inr (.inl (0, 24, (-2147483648), 2147483647))) := rfl
theorem xD_23 : xT[23]? = some (.inl (7, [.inl (.ref 24), .inl (.ref 25)])) := rfl
theorem xD_24 : xT[24]? = some (.inr (.inl (0, 5, (-2147483648), 2147483647))) := rfl
theorem xD_25 : xT[25]? = some (.inr (.inl (0, 24, (-2147483648), 2147483647))) := rfl
theorem xD_26 : xT[26]? = some (.inl (7, [.inl (.ref 27), .inl (.ref 28)])) := rfl
theorem xD_27 : xT[27]? = some (.inr (.inl (0, 5, (-2147483648), 2147483647))) := rfl
theorem xD_28 : xT[28]? = some (.inr (.inl (0, 24, (-2147483648), 2147483647))) := rfl
theorem xD_29 : xT[29]? = some (.inl (11, [.inr (some ((-2147483648), 2147483647)), .inr (some ((-2147483648), 2147483647)), .inr (some (0, 1)), .inr (some ((-2147483648), 2147483647)), .inl (.ref 30)])) := rfl
theorem xD_30 : xT[30]? = some (.inr (.inl (0, 600, (-2147483648), 2147483647))) := rfl
theorem xD_31 : xT[31]? = some (.inl (11, [.inr (some ((-2147483648), 2147483647)), .inr (some ((-2147483648), 2147483647)), .inr (some (0, 1)), .inr (some ((-2147483648), 2147483647)), .inl (.ref 32)])) := rfl
theorem xD_32 : xT[32]? = some (.inr (.inl (0, 600, (-2147483648), 2147483647))) := rfl
theorem xD_33 : xT[33]? = some (.inl (11, [.inr (some ((-2147483648), 2147483647)), .inr (some ((-2147483648), 2147483647)), .inr (some (0, 1)), .inr (some ((-2147483648), 2147483647)), .inl (.ref 34)])) := rfl
theorem xD_34 : xT[34]? = some (.inr (.inl (0, 600, (-2147483648), 2147483647))) := rfl
theorem xD_35 : xT[35]? = some (.inl (11, [.inr (some ((-2147483648), 2147483647)), .inr (some ((-2147483648), 2147483647)), .inr (some (0, 1)), .inr (some ((-2147483648), 2147483647)), .inl (.ref 36)])) := rfl
theorem xD_36 : xT[36]? = some (.inr (.inl (0, 600, (-2147483648), 2147483647))) := rfl
theorem xD_37 : xT[37]? = some (.inl (11, [.inr (some ((-2147483648), 2147483647)), .inr (some ((-2147483648), 2147483647)), .inr (some (0, 1)), .inr (some ((-2147483648), 2147483647)), .inl (.ref 38)])) := rfl
theorem xD_38 : xT[38]? = some (.inr (.inl (0, 600, (-2147483648), 2147483647))) := rfl
theorem xD_39 : xT[39]? = some (.inl (11, [.inr (some ((-2147483648), 2147483647)), .inr (some ((-2147483648), 2147483647)), .inr (some (0, 1)), .inr (some ((-2147483648), 2147483647)), .inl (.ref 40)])) := rfl
theorem xD_40 : xT[40]? = some (.inr (.inl (0, 600, (-2147483648), 2147483647))) := rfl
theorem xD_41 : xT[41]? = some (.inl (11, [.inr (some ((-2147483648), 2147483647)), .inr (some ((-2147483648), 2147483647)), .inr (some (0, 1)), .inr (some ((-2147483648), 2147483647)), .inl (.ref 42)])) := rfl
theorem xD_42 : xT[42]? = some (.inr (.inl (0, 600, (-2147483648), 2147483647))) := rfl
theorem xD_43 : xT[43]? = some (.inl (11, [.inr (some ((-2147483648), 2147483647)), .inr (some ((-2147483648), 2147483647)), .inr (some (0, 1)), .inr (some ((-2147483648), 2147483647)), .inl (.ref 44)])) := rfl
theorem xD_44 : xT[44]? = some (.inr (.inl (0, 600, (-2147483648), 2147483647))) := rfl
theorem xD_45 : xT[45]? = some (.inl (11, [.inr (some ((-2147483648), 2147483647)), .inr (some ((-2147483648), 2147483647)), .inr (some (0, 1)), .inr (some ((-2147483648), 2147483647)), .inl (.ref 46)])) := rfl
theorem xD_46 : xT[46]? = some (.inr (.inl (0, 600, (-2147483648), 2147483647))) := rfl
theorem xD_47 : xT[47]? = some (.inl (11, [.inr (some ((-2147483648), 2147483647)), .inr (some ((-2147483648), 2147483647)), .inr (some (0, 1)), .inr (some ((-2147483648), 2147483647)), .inl (.ref 48)])) := rfl
theorem xD_48 : xT[48]? = some (.inr (.inl (0, 600, (-2147483648), 2147483647))) := rfl
theorem xD_49 : xT[49]? = some (.inl (11, [.inr (some ((-2147483648), 2147483647)), .inr (some ((-2147483648), 2147483647)), .inr (some (0, 1)), .inr (some ((-2147483648), 2147483647)), .inl (.ref 50)])) := rfl
theorem xD_50 : xT[50]? = some (.inr (.inl (0, 600, (-2147483648), 2147483647))) := rfl
theorem xD_51 : xT[51]? = some (.inl (11, [.inr (some ((-2147483648), 2147483647)), .inr (some ((-2147483648), 2147483647)), .inr (some (0, 1)), .inr (some ((-2147483648), 2147483647)), .inl (.ref 52)])) := rfl
theorem xD_52 : xT[52]? = some (.inr (.inl (0, 600, (-2147483648), 2147483647))) := rfl
theorem xD_53 : xT[53]? = some (.inl (1, [.inr (some ((-2147483648), 2147483647)), .inr (some ((-2147483648), 2147483647)), .inr (some ((-2147483648), 2147483647)), .inr (some ((-2147483648), 2147483647))])) := rfl
theorem xD_54 : xT[54]? = some (.inl (1, [.inr (some ((-2147483648), 2147483647)), .inr (some ((-2147483648), 2147483647)), .inr (some ((-2147483648), 2147483647)), .inr (some ((-2147483648), 2147483647))])) := rfl
theorem xD_55 : xT[55]? = some (.inl (1, [.inr (some ((-2147483648), 2147483647)), .inr (some ((-2147483648), 2147483647)), .inr (some ((-2147483648), 2147483647)), .inr (some ((-2147483648), 2147483647))])) := rfl
theorem xD_56 : xT[56]? = some (.inl (1, [.inr (some ((-2147483648), 2147483647)), .inr (some ((-2147483648), 2147483647)), .inr (some ((-2147483648), 2147483647)), .inr (some ((-2147483648), 2147483647))])) := rfl
theorem xD_57 : xT[57]? = some (.inl (1, [.inr (some ((-2147483648), 2147483647)), .inr (some ((-2147483648), 2147483647)), .inr (some ((-2147483648), 2147483647)), .inr (some ((-2147483648), 2147483647))])) := rfl
theorem xD_58 : xT[58]? = some (.inl (1, [.inr (some ((-2147483648), 2147483647)), .inr (some ((-2147483648), 2147483647)), .inr (some ((-2147483648), 2147483647)), .inr (some ((-2147483648), 2147483647))])) := rfl
theorem xD_59 : xT[59]? = some (.inl (1, [.inr (some ((-2147483648), 2147483647)), .inr (some ((-2147483648), 2147483647)), .inr (some ((-2147483648), 2147483647)), .inr (some ((-2147483648), 2147483647))])) := rfl
theorem xD_60 : xT[60]? = some (.inl (1, [.inr (some ((-2147483648), 2147483647)), .inr (some ((-2147483648), 2147483647)), .inr (some ((-2147483648), 2147483647)), .inr (some ((-2147483648), 2147483647))])) := rfl
theorem xD_61 : xT[61]? = some (.inl (1, [.inr (some ((-2147483648), 2147483647)), .inr (some ((-2147483648), 2147483647)), .inr (some ((-2147483648), 2147483647)), .inr (some ((-2147483648), 2147483647))])) := rfl
theorem xD_62 : xT[62]? = some (.inl (1, [.inr (some ((-2147483648), 2147483647)), .inr (some ((-2147483648), 2147483647)), .inr (some ((-2147483648), 2147483647)), .inr (some ((-2147483648), 2147483647))])) := rfl
theorem xD_63 : xT[63]? = some (.inl (9, [.inl (.ref 64), .inl (.ref 65), .inr (some ((-2147483648), 2147483647)), .inr (some ((-2147483648), 2147483647))])) := rfl
theorem xD_64 : xT[64]? = some (.inr (.inl (0, 6, (-2147483648), 2147483647))) := rfl
theorem xD_65 : xT[65]? = some (.inr (.inl (0, 12, (-2147483648), 2147483647))) := rfl
theorem xD_66 : xT[66]? = some (.inl (3, [.inl (.ref 1), .inl (.ref 67), .inl (.ref 70), .inl (.ref 71), .inl (.ref 72), .inl (.ref 73), .inl (.ref 74), .inr none, .inr (some (0, 60))])) := rfl
theorem xD_67 : xT[67]? = some (.inl (9, [.inl (.ref 68), .inl (.ref 69), .inr (some ((-2147483648), 2147483647)), .inr (some ((-2147483648), 2147483647))])) := rfl
theorem xD_68 : xT[68]? = some (.inr (.inl (0, 6, (-2147483648), 2147483647))) := rfl
theorem xD_69 : xT[69]? = some (.inr (.inl (0, 12, (-2147483648), 2147483647))) := rfl
theorem xD_70 : xT[70]? = some (.inr (.inl (0, 60, (-2147483648), 2147483647))) := rfl
theorem xD_71 : xT[71]? = some (.inr (.inl (0, 60, 0, 600))) := rfl
theorem xD_72 : xT[72]? = some (.inr (.inl (0, 60, (-2147483648), 2147483647))) := rfl
theorem xD_73 : xT[73]? = some (.inr (.inl (0, 60, (-2147483648), 2147483647))) := rfl
theorem xD_74 : xT[74]? = some (.inr (.inr (.inl (1, 64)))) := rfl
theorem xD_75 : xT[75]? = some (.inl (6, [.inl (.ref 76), .inl (.ref 77), .inl (.ref 78), .inl (.ref 79), .inr (some (0, 8))])) := rfl
theorem xD_76 : xT[76]? = some (.inr (.inr (.inl (1, 8)))) := rfl
theorem xD_77 : xT[77]? = some (.inr (.inl (0, 8, (-2147483648), 2147483647))) := rfl
theorem xD_78 : xT[78]? = some (.inr (.inl (0, 6561, (-2147483648), 2147483647))) := rfl
theorem xD_79 : xT[79]? = some (.inr (.inl (0, 8, (-2147483648), 2147483647))) := rfl
theorem xD_80 : xT[80]? = some (.inl (2, [.inl (.ref 81), .inl (.ref 82), .inl (.ref 83), .inl (.ref 84)])) := rfl
theorem xD_81 : xT[81]? = some (.inr (.inl (0, 24, 0, 3))) := rfl
theorem xD_82 : xT[82]? = some (.inr (.inl (0, 24, 0, 5))) := rfl
theorem xD_83 : xT[83]? = some (.inr (.inl (0, 24, 0, 2))) := rfl
theorem xD_84 : xT[84]? = some (.inr (.inl (0, 16, (-2147483648), 2147483647))) := rfl
theorem xD_85 : xT[85]? = some (.inl (5, [.inl (.ref 86), .inl (.ref 87), .inl (.ref 88), .inl (.ref 89), .inl (.ref 90), .inl (.ref 91), .inl (.ref 92), .inr (some (0, 1)), .inr (some (0, 12))])) := rfl
theorem xD_86 : xT[86]? = some (.inr (.inl (0, 12, (-2147483648), 2147483647))) := rfl
theorem xD_87 : xT[87]? = some (.inr (.inl (0, 12, (-2147483648), 2147483647))) := rfl
theorem xD_88 : xT[88]? = some (.inr (.inl (0, 12, (-2147483648), 2147483647))) := rfl
theorem xD_89 : xT[89]? = some (.inr (.inl (0, 12, (-2147483648), 2147483647))) := rfl
theorem xD_90 : xT[90]? = some (.inr (.inl (0, 4, (-2147483648), 2147483647))) := rfl
theorem xD_91 : xT[91]? = some (.inr (.inl (0, 4, (-2147483648), 2147483647))) := rfl
theorem xD_92 : xT[92]? = some (.inr (.inl (0, 4, (-2147483648), 2147483647))) := rfl
theorem xD_93 : xT[93]? = some (.inr (.inr (.inr (.inl (6, .inr (.inr ([some 95, some 96, some 97, some 98, some 99, some 100, some 101, some 102, some 103, some 104, some 105, some 106, some 107, some 108, some 109, some 110, some 111, some 112, some 113, some 114]))))))) := rfl
theorem xD_94 : xT[94]? = some (.inr (.inl (0, 7, (-2147483648), 2147483647))) := rfl
theorem xD_95 : xT[95]? = some (.inl (10, [.inr (some ((-2147483648), 2147483647)), .inr (some ((-2147483648), 2147483647)), .inr (some ((-2147483648), 2147483647)), .inr (some ((-2147483648), 2147483647)), .inr (some ((-2147483648), 2147483647)), .inr (some ((-2147483648), 2147483647))])) := rfl
theorem xD_96 : xT[96]? = some (.inl (10, [.inr (some ((-2147483648), 2147483647)), .inr (some ((-2147483648), 2147483647)), .inr (some ((-2147483648), 2147483647)), .inr (some ((-2147483648), 2147483647)), .inr (some ((-2147483648), 2147483647)), .inr (some ((-2147483648), 2147483647))])) := rfl
theorem xD_97 : xT[97]? = some (.inl (10, [.inr (some ((-2147483648), 2147483647)), .inr (some ((-2147483648), 2147483647)), .inr (some ((-2147483648), 2147483647)), .inr (some ((-2147483648), 2147483647)), .inr (some ((-2147483648), 2147483647)), .inr (some ((-2147483648), 2147483647))])) := rfl
theorem xD_98 : xT[98]? = some (.inl (10, [.inr (some ((-2147483648), 2147483647)), .inr (some ((-2147483648), 2147483647)), .inr (some ((-2147483648), 2147483647)), .inr (some ((-2147483648), 2147483647)), .inr (some ((-2147483648), 2147483647)), .inr (some ((-2147483648), 2147483647))])) := rfl
theorem xD_99 : xT[99]? = some (.inl (10, [.inr (some ((-2147483648), 2147483647)), .inr (some ((-2147483648), 2147483647)), .inr (some ((-2147483648), 2147483647)), .inr (some ((-2147483648), 2147483647)), .inr (some ((-2147483648), 2147483647)), .inr (some ((-2147483648), 2147483647))])) := rfl
theorem xD_100 : xT[100]? = some (.inl (10, [.inr (some ((-2147483648), 2147483647)), .inr (some ((-2147483648), 2147483647)), .inr (some ((-2147483648), 2147483647)), .inr (some ((-2147483648), 2147483647)), .inr (some ((-2147483648), 2147483647)), .inr (some ((-2147483648), 2147483647))])) := rfl
theorem xD_101 : xT[101]? = some (.inl (10, [.inr (some ((-2147483648), 2147483647)), .inr (some ((-2147483648), 2147483647)), .inr (some ((-2147483648), 2147483647)), .inr (some ((-2147483648), 2147483647)), .inr (some ((-2147483648), 2147483647)), .inr (some ((-2147483648), 2147483647))])) := rfl
theorem xD_102 : xT[102]? = some (.inl (10, [.inr (some ((-2147483648), 2147483647)), .inr (some ((-2147483648), 2147483647)), .inr (some ((-2147483648), 2147483647)), .inr (some ((-2147483648), 2147483647)), .inr (some ((-2147483648), 2147483647)), .inr (some ((-2147483648), 2147483647))])) := rfl
theorem xD_103 : xT[103]? = some (.inl (10, [.inr (some ((-2147483648), 2147483647)), .inr (some ((-2147483648), 2147483647)), .inr (some ((-2147483648), 2147483647)), .inr (some ((-2147483648), 2147483647)), .inr (some ((-2147483648), 2147483647)), .inr (some ((-2147483648), 2147483647))])) := rfl
theorem xD_104 : xT[104]? = some (.inl (10, [.inr (some ((-2147483648), 2147483647)), .inr (some ((-2147483648), 2147483647)), .inr (some ((-2147483648), 2147483647)), .inr (some ((-2147483648), 2147483647)), .inr (some ((-2147483648), 2147483647)), .inr (some ((-2147483648), 2147483647))])) := rfl
theorem xD_105 : xT[105]? = some (.inl (10, [.inr (some ((-2147483648), 2147483647)), .inr (some ((-2147483648), 2147483647)), .inr (some ((-2147483648), 2147483647)), .inr (some ((-2147483648), 2147483647)), .inr (some ((-2147483648), 2147483647)), .inr (some ((-2147483648), 2147483647))])) := rfl
theorem xD_106 : xT[106]? = some (.inl (10, [.inr (some ((-2147483648), 2147483647)), .inr (some ((-2147483648), 2147483647)), .inr (some ((-2147483648), 2147483647)), .inr (some ((-2147483648), 2147483647)), .inr (some ((-2147483648), 2147483647)), .inr (some ((-2147483648), 2147483647))])) := rfl
theorem xD_107 : xT[107]? = some (.inl (10, [.inr (some ((-2147483648), 2147483647)), .inr (some ((-2147483648), 2147483647)), .inr (some ((-2147483648), 2147483647)), .inr (some ((-2147483648), 2147483647)), .inr (some ((-2147483648), 2147483647)), .inr (some ((-2147483648), 2147483647))])) := rfl
theorem xD_108 : xT[108]? = some (.inl (10, [.inr (some ((-2147483648), 2147483647)), .inr (some ((-2147483648), 2147483647)), .inr (some ((-2147483648), 2147483647)), .inr (some ((-2147483648), 2147483647)), .inr (some ((-2147483648), 2147483647)), .inr (some ((-2147483648), 2147483647))])) := rfl
theorem xD_109 : xT[109]? = some (.inl (10, [.inr (some ((-2147483648), 2147483647)), .inr (some ((-2147483648), 2147483647)), .inr (some ((-2147483648), 2147483647)), .inr (some ((-2147483648), 2147483647)), .inr (some ((-2147483648), 2147483647)), .inr (some ((-2147483648), 2147483647))])) := rfl
theorem xD_110 : xT[110]? = some (.inl (10, [.inr (some ((-2147483648), 2147483647)), .inr (some ((-2147483648), 2147483647)), .inr (some ((-2147483648), 2147483647)), .inr (some ((-2147483648), 2147483647)), .inr (some ((-2147483648), 2147483647)), .inr (some ((-2147483648), 2147483647))])) := rfl
theorem xD_111 : xT[111]? = some (.inl (10, [.inr (some ((-2147483648), 2147483647)), .inr (some ((-2147483648), 2147483647)), .inr (some ((-2147483648), 2147483647)), .inr (some ((-2147483648), 2147483647)), .inr (some ((-2147483648), 2147483647)), .inr (some ((-2147483648), 2147483647))])) := rfl
theorem xD_112 : xT[112]? = some (.inl (10, [.inr (some ((-2147483648), 2147483647)), .inr (some ((-2147483648), 2147483647)), .inr (some ((-2147483648), 2147483647)), .inr (some ((-2147483648), 2147483647)), .inr (some ((-2147483648), 2147483647)), .inr (some ((-2147483648), 2147483647))])) := rfl
theorem xD_113 : xT[113]? = some (.inl (10, [.inr (some ((-2147483648), 2147483647)), .inr (some ((-2147483648), 2147483647)), .inr (some ((-2147483648), 2147483647)), .inr (some ((-2147483648), 2147483647)), .inr (some ((-2147483648), 2147483647)), .inr (some ((-2147483648), 2147483647))])) := rfl
theorem xD_114 : xT[114]? = some (.inl (10, [.inr (some ((-2147483648), 2147483647)), .inr (some ((-2147483648), 2147483647)), .inr (some ((-2147483648), 2147483647)), .inr (some ((-2147483648), 2147483647)), .inr (some ((-2147483648), 2147483647)), .inr (some ((-2147483648), 2147483647))])) := rfl
theorem xD_115 : xT[115]? = some (.inl (12, [.inr (some ((-2147483648), 2147483647)), .inr (some (0, 600)), .inl (.ref 116), .inl (.ref 117), .inl (.ref 118), .inl (.ref 119), .inl (.ref 120), .inl (.ref 121), .inl (.ref 122), .inl (.ref 123), .inl (.ref 124), .inl (.ref 125), .inl (.ref 126), .inl (.ref 127), .inl (.ref 128), .inl (.ref 129), .inr (some ((-2147483648), 2147483647)), .inl (.ref 130), .inr (some (0, 60)), .inl (.ref 131), .inl (.ref 132), .inl (.ref 133), .inl (.ref 134), .inr (some (0, 10)), .inl (.ref 135), .inl (.ref 136), .inl (.ref 137), .inl (.ref 138), .inl (.ref 139), .inl (.ref 140), .inl (.ref 141), .inl (.ref 142), .inr (some ((-2147483648), 2147483647)), .inr (some ((-2147483648), 2147483647)), .inr (some (0, 20)), .inl (.ref 143), .inl (.ref 144), .inl (.ref 145), .inl (.ref 146), .inl (.ref 147), .inl (.ref 148), .inr (some (0, 1)), .inl (.ref 149), .inl (.ref 150), .inl (.ref 151), .inr (some (0, 8)), .inl (.ref 152), .inl (.ref 153), .inl (.ref 154), .inl (.ref 155), .inl (.ref 156), .inl (.ref 157), .inl (.ref 158), .inl (.ref 159), .inr (some (0, 24)), .inl (.ref 160), .inr (some (0, 12)), .inl (.ref 161), .inl (.ref 162), .inl (.ref 163), .inl (.ref 164), .inr (some (0, 1)), .inl (.ref 165), .inl (.ref 166)])) := rfl
theorem xD_116 : xT[116]? = some (.inr (.inl (0, 6, (-2147483648), 2147483647))) := rfl
theorem xD_117 : xT[117]? = some (.inr (.inl (0, 6, (-2147483648), 2147483647))) := rfl
theorem xD_118 : xT[118]? = some (.inr (.inl (0, 6, (-2147483648), 2147483647))) := rfl
theorem xD_119 : xT[119]? = some (.inr (.inl (0, 6, (-2147483648), 2147483647))) := rfl
theorem xD_120 : xT[120]? = some (.inr (.inl (0, 6, (-2147483648), 2147483647))) := rfl
theorem xD_121 : xT[121]? = some (.inr (.inl (0, 6, (-2147483648), 2147483647))) := rfl
theorem xD_122 : xT[122]? = some (.inr (.inl (0, 144, (-2147483648), 2147483647))) := rfl
theorem xD_123 : xT[123]? = some (.inr (.inl (0, 600, (-2147483648), 2147483647))) := rfl
theorem xD_124 : xT[124]? = some (.inr (.inl (0, 600, (-2147483648), 2147483647))) := rfl
theorem xD_125 : xT[125]? = some (.inr (.inl (0, 12, (-9), 5))) := rfl
theorem xD_126 : xT[126]? = some (.inr (.inl (0, 12, (-2147483648), 2147483647))) := rfl
theorem xD_127 : xT[127]? = some (.inr (.inl (2, 12, 0, 1))) := rfl
theorem xD_128 : xT[128]? = some (.inr (.inl (0, 12, (-2147483648), 2147483647))) := rfl
theorem xD_129 : xT[129]? = some (.inr (.inl (0, 12, (-2147483648), 2147483647))) := rfl
theorem xD_130 : xT[130]? = some (.inr (.inl (0, 7200, (-2147483648), 2147483647))) := rfl
theorem xD_131 : xT[131]? = some (.inr (.inl (0, 60, 0, 11))) := rfl
theorem xD_132 : xT[132]? = some (.inr (.inl (0, 60, (-2147483648), 2147483647))) := rfl
theorem xD_133 : xT[133]? = some (.inr (.inl (0, 60, (-2147483648), 2147483647))) := rfl
theorem xD_134 : xT[134]? = some (.inr (.inl (0, 60, (-2147483648), 2147483647))) := rfl
theorem xD_135 : xT[135]? = some (.inr (.inl (0, 10, (-2147483648), 2147483647))) := rfl
theorem xD_136 : xT[136]? = some (.inr (.inl (0, 10, 0, 11))) := rfl
theorem xD_137 : xT[137]? = some (.inr (.inl (0, 10, (-2147483648), 2147483647))) := rfl
theorem xD_138 : xT[138]? = some (.inr (.inl (0, 10, (-2147483648), 2147483647))) := rfl
theorem xD_139 : xT[139]? = some (.inr (.inl (2, 10, 0, 1))) := rfl
theorem xD_140 : xT[140]? = some (.inr (.inl (0, 7, (-2147483648), 2147483647))) := rfl
theorem xD_141 : xT[141]? = some (.inr (.inl (0, 6, (-2147483648), 2147483647))) := rfl
theorem xD_142 : xT[142]? = some (.inr (.inl (0, 12, (-2147483648), 2147483647))) := rfl
theorem xD_143 : xT[143]? = some (.inr (.inl (0, 20, 0, 5))) := rfl
theorem xD_144 : xT[144]? = some (.inr (.inl (0, 20, (-2147483648), 2147483647))) := rfl
theorem xD_145 : xT[145]? = some (.inr (.inl (0, 20, (-2147483648), 2147483647))) := rfl
theorem xD_146 : xT[146]? = some (.inr (.inl (0, 20, 0, 600))) := rfl
theorem xD_147 : xT[147]? = some (.inr (.inl (0, 20, 0, 600))) := rfl
theorem xD_148 : xT[148]? = some (.inr (.inl (0, 20, (-2147483648), 2147483647))) := rfl
theorem xD_149 : xT[149]? = some (.inr (.inr (.inl (1, 64)))) := rfl
theorem xD_150 : xT[150]? = some (.inr (.inl (0, 600, (-2147483648), 2147483647))) := rfl
theorem xD_151 : xT[151]? = some (.inr (.inl (0, 600, (-2147483648), 2147483647))) := rfl
theorem xD_152 : xT[152]? = some (.inr (.inl (0, 8, (-2147483648), 2147483647))) := rfl
theorem xD_153 : xT[153]? = some (.inr (.inl (0, 8, (-2147483648), 2147483647))) := rfl
theorem xD_154 : xT[154]? = some (.inr (.inl (0, 8, 0, 2))) := rfl
theorem xD_155 : xT[155]? = some (.inr (.inl (0, 6561, (-2147483648), 2147483647))) := rfl
theorem xD_156 : xT[156]? = some (.inr (.inl (0, 24, 0, 3))) := rfl
theorem xD_157 : xT[157]? = some (.inr (.inl (0, 24, 0, 5))) := rfl
theorem xD_158 : xT[158]? = some (.inr (.inl (0, 24, 0, 2))) := rfl
theorem xD_159 : xT[159]? = some (.inr (.inl (0, 24, 0, 23))) := rfl
theorem xD_160 : xT[160]? = some (.inr (.inl (0, 24, (-2147483648), 2147483647))) := rfl
theorem xD_161 : xT[161]? = some (.inr (.inl (0, 12, (-2147483648), 2147483647))) := rfl
theorem xD_162 : xT[162]? = some (.inr (.inl (0, 12, (-2147483648), 2147483647))) := rfl
theorem xD_163 : xT[163]? = some (.inr (.inl (0, 12, (-2147483648), 2147483647))) := rfl
theorem xD_164 : xT[164]? = some (.inr (.inl (0, 12, (-2147483648), 2147483647))) := rfl
theorem xD_165 : xT[165]? = some (.inr (.inl (0, 8, (-2147483648), 2147483647))) := rfl
theorem xD_166 : xT[166]? = some (.inr (.inl (0, 4, (-2147483648), 2147483647))) := rfl
theorem xD_167 : xT[167]? = some (.inr (.inr (.inl (1, 1)))) := rfl
theorem xq_0 {h : xe_H} (T : xt h) : ∃ (v8 : Int32) (v9 : Int32), (0 ≤ v8.toInt ∧ v8.toInt ≤ 20) ∧ (0 ≤ v9.toInt ∧ v9.toInt ≤ 600) ∧ h[0]? = some (.inr (0, [.ref 1, .ref 63, .ref 66, .ref 75, .ref 80, .ref 85, .ref 93, .ref 94, .int v8, .int v9])) := by
  obtain ⟨fs, A, a0⟩ := xk_obj T xD_0
  obtain ⟨w0, r0, rfl, t0, a1⟩ := xt_cons a0
  obtain rfl := t0
  obtain ⟨w1, r1, rfl, t1, a2⟩ := xt_cons a1
  obtain rfl := t1
  obtain ⟨w2, r2, rfl, t2, a3⟩ := xt_cons a2
  obtain rfl := t2
  obtain ⟨w3, r3, rfl, t3, a4⟩ := xt_cons a3
  obtain rfl := t3
  obtain ⟨w4, r4, rfl, t4, a5⟩ := xt_cons a4
  obtain rfl := t4
  obtain ⟨w5, r5, rfl, t5, a6⟩ := xt_cons a5
  obtain rfl := t5
  obtain ⟨w6, r6, rfl, t6, a7⟩ := xt_cons a6
  obtain rfl := t6
  obtain ⟨w7, r7, rfl, t7, a8⟩ := xt_cons a7
  obtain rfl := t7
  obtain ⟨w8, r8, rfl, t8, a9⟩ := xt_cons a8
  obtain ⟨v8, rfl, b8⟩ := t8
  obtain ⟨w9, r9, rfl, t9, a10⟩ := xt_cons a9
  obtain ⟨v9, rfl, b9⟩ := t9
  obtain rfl := xt_nil a10
  exact ⟨v8, v9, b8, b9, A⟩
theorem xp_0 {h : xe_H} (T : xt h) {P : Prop} (kk : ∀ (v8 : Int32) (v9 : Int32), (0 ≤ v8.toInt ∧ v8.toInt ≤ 20) → (0 ≤ v9.toInt ∧ v9.toInt ≤ 600) → h[0]? = some (.inr (0, [.ref 1, .ref 63, .ref 66, .ref 75, .ref 80, .ref 85, .ref 93, .ref 94, .int v8, .int v9])) → P) : P := by
  obtain ⟨v8, v9, b8, b9, A⟩ := xq_0 T
  exact kk v8 v9 b8 b9 A
theorem xq_1 {h : xe_H} (T : xt h) : ∃ (v5 : Int32) (v6 : Int32), (0 ≤ v5.toInt ∧ v5.toInt ≤ 10) ∧ ((-2147483648) ≤ v6.toInt ∧ v6.toInt ≤ 2147483647) ∧ h[1]? = some (.inr (4, [.ref 2, .ref 3, .ref 4, .ref 5, .ref 8, .int v5, .int v6])) := by
  obtain ⟨fs, A, a0⟩ := xk_obj T xD_1
  obtain ⟨w0, r0, rfl, t0, a1⟩ := xt_cons a0
  obtain rfl := t0
  obtain ⟨w1, r1, rfl, t1, a2⟩ := xt_cons a1
  obtain rfl := t1
  obtain ⟨w2, r2, rfl, t2, a3⟩ := xt_cons a2
  obtain rfl := t2
  obtain ⟨w3, r3, rfl, t3, a4⟩ := xt_cons a3
  obtain rfl := t3
  obtain ⟨w4, r4, rfl, t4, a5⟩ := xt_cons a4
  obtain rfl := t4
  obtain ⟨w5, r5, rfl, t5, a6⟩ := xt_cons a5
  obtain ⟨v5, rfl, b5⟩ := t5
  obtain ⟨w6, r6, rfl, t6, a7⟩ := xt_cons a6
  obtain ⟨v6, rfl, b6⟩ := t6
  obtain rfl := xt_nil a7
  exact ⟨v5, v6, b5, b6, A⟩
theorem xp_1 {h : xe_H} (T : xt h) {P : Prop} (kk : ∀ (v5 : Int32) (v6 : Int32), (0 ≤ v5.toInt ∧ v5.toInt ≤ 10) → ((-2147483648) ≤ v6.toInt ∧ v6.toInt ≤ 2147483647) → h[1]? = some (.inr (4, [.ref 2, .ref 3, .ref 4, .ref 5, .ref 8, .int v5, .int v6])) → P) : P := by
  obtain ⟨v5, v6, b5, b6, A⟩ := xq_1 T
  exact kk v5 v6 b5 b6 A
theorem xq_5 {h : xe_H} (T : xt h) : ∃ (v0 : Int32), ((-2147483648) ≤ v0.toInt ∧ v0.toInt ≤ 2147483647) ∧ h[5]? = some (.inr (8, [.int v0, .ref 6, .ref 7])) := by
  obtain ⟨fs, A, a0⟩ := xk_obj T xD_5
  obtain ⟨w0, r0, rfl, t0, a1⟩ := xt_cons a0
  obtain ⟨v0, rfl, b0⟩ := t0
  obtain ⟨w1, r1, rfl, t1, a2⟩ := xt_cons a1
  obtain rfl := t1
  obtain ⟨w2, r2, rfl, t2, a3⟩ := xt_cons a2
  obtain rfl := t2
  obtain rfl := xt_nil a3
  exact ⟨v0, b0, A⟩
theorem xp_5 {h : xe_H} (T : xt h) {P : Prop} (kk : ∀ (v0 : Int32), ((-2147483648) ≤ v0.toInt ∧ v0.toInt ≤ 2147483647) → h[5]? = some (.inr (8, [.int v0, .ref 6, .ref 7])) → P) : P := by
  obtain ⟨v0, b0, A⟩ := xq_5 T
  exact kk v0 b0 A
theorem xq_8 {h : xe_H} (T : xt h) : ∃ (v0 : Int32), ((-2147483648) ≤ v0.toInt ∧ v0.toInt ≤ 2147483647) ∧ h[8]? = some (.inr (8, [.int v0, .ref 9, .ref 10])) := by
  obtain ⟨fs, A, a0⟩ := xk_obj T xD_8
  obtain ⟨w0, r0, rfl, t0, a1⟩ := xt_cons a0
  obtain ⟨v0, rfl, b0⟩ := t0
  obtain ⟨w1, r1, rfl, t1, a2⟩ := xt_cons a1
  obtain rfl := t1
  obtain ⟨w2, r2, rfl, t2, a3⟩ := xt_cons a2
  obtain rfl := t2
  obtain rfl := xt_nil a3
  exact ⟨v0, b0, A⟩
theorem xp_8 {h : xe_H} (T : xt h) {P : Prop} (kk : ∀ (v0 : Int32), ((-2147483648) ≤ v0.toInt ∧ v0.toInt ≤ 2147483647) → h[8]? = some (.inr (8, [.int v0, .ref 9, .ref 10])) → P) : P := by
  obtain ⟨v0, b0, A⟩ := xq_8 T
  exact kk v0 b0 A
theorem xq_11 {h : xe_H} (T : xt h) : h[11]? = some (.inr (7, [.ref 12, .ref 13])) := by
  obtain ⟨fs, A, a0⟩ := xk_obj T xD_11
  obtain ⟨w0, r0, rfl, t0, a1⟩ := xt_cons a0
  obtain rfl := t0
  obtain ⟨w1, r1, rfl, t1, a2⟩ := xt_cons a1
  obtain rfl := t1
  obtain rfl := xt_nil a2
  exact A
theorem xq_14 {h : xe_H} (T : xt h) : h[14]? = some (.inr (7, [.ref 15, .ref 16])) := by
  obtain ⟨fs, A, a0⟩ := xk_obj T xD_14
  obtain ⟨w0, r0, rfl, t0, a1⟩ := xt_cons a0
  obtain rfl := t0
  obtain ⟨w1, r1, rfl, t1, a2⟩ := xt_cons a1
  obtain rfl := t1
  obtain rfl := xt_nil a2
  exact A
theorem xq_17 {h : xe_H} (T : xt h) : h[17]? = some (.inr (7, [.ref 18, .ref 19])) := by
  obtain ⟨fs, A, a0⟩ := xk_obj T xD_17
  obtain ⟨w0, r0, rfl, t0, a1⟩ := xt_cons a0
  obtain rfl := t0
  obtain ⟨w1, r1, rfl, t1, a2⟩ := xt_cons a1
  obtain rfl := t1
  obtain rfl := xt_nil a2
  exact A
theorem xq_20 {h : xe_H} (T : xt h) : h[20]? = some (.inr (7, [.ref 21, .ref 22])) := by
  obtain ⟨fs, A, a0⟩ := xk_obj T xD_20
  obtain ⟨w0, r0, rfl, t0, a1⟩ := xt_cons a0
  obtain rfl := t0
  obtain ⟨w1, r1, rfl, t1, a2⟩ := xt_cons a1
  obtain rfl := t1
  obtain rfl := xt_nil a2
  exact A
theorem xq_23 {h : xe_H} (T : xt h) : h[23]? = some (.inr (7, [.ref 24, .ref 25])) := by
  obtain ⟨fs, A, a0⟩ := xk_obj T xD_23
  obtain ⟨w0, r0, rfl, t0, a1⟩ := xt_cons a0
  obtain rfl := t0
  obtain ⟨w1, r1, rfl, t1, a2⟩ := xt_cons a1
  obtain rfl := t1
  obtain rfl := xt_nil a2
  exact A
theorem xq_26 {h : xe_H} (T : xt h) : h[26]? = some (.inr (7, [.ref 27, .ref 28])) := by
  obtain ⟨fs, A, a0⟩ := xk_obj T xD_26
  obtain ⟨w0, r0, rfl, t0, a1⟩ := xt_cons a0
  obtain rfl := t0
  obtain ⟨w1, r1, rfl, t1, a2⟩ := xt_cons a1
  obtain rfl := t1
  obtain rfl := xt_nil a2
  exact A
theorem xq_29 {h : xe_H} (T : xt h) : ∃ (v0 : Int32) (v1 : Int32) (v2 : Int32) (v3 : Int32), ((-2147483648) ≤ v0.toInt ∧ v0.toInt ≤ 2147483647) ∧ ((-2147483648) ≤ v1.toInt ∧ v1.toInt ≤ 2147483647) ∧ (0 ≤ v2.toInt ∧ v2.toInt ≤ 1) ∧ ((-2147483648) ≤ v3.toInt ∧ v3.toInt ≤ 2147483647) ∧ h[29]? = some (.inr (11, [.int v0, .int v1, .int v2, .int v3, .ref 30])) := by
  obtain ⟨fs, A, a0⟩ := xk_obj T xD_29
  obtain ⟨w0, r0, rfl, t0, a1⟩ := xt_cons a0
  obtain ⟨v0, rfl, b0⟩ := t0
  obtain ⟨w1, r1, rfl, t1, a2⟩ := xt_cons a1
  obtain ⟨v1, rfl, b1⟩ := t1
  obtain ⟨w2, r2, rfl, t2, a3⟩ := xt_cons a2
  obtain ⟨v2, rfl, b2⟩ := t2
  obtain ⟨w3, r3, rfl, t3, a4⟩ := xt_cons a3
  obtain ⟨v3, rfl, b3⟩ := t3
  obtain ⟨w4, r4, rfl, t4, a5⟩ := xt_cons a4
  obtain rfl := t4
  obtain rfl := xt_nil a5
  exact ⟨v0, v1, v2, v3, b0, b1, b2, b3, A⟩
theorem xp_29 {h : xe_H} (T : xt h) {P : Prop} (kk : ∀ (v0 : Int32) (v1 : Int32) (v2 : Int32) (v3 : Int32), ((-2147483648) ≤ v0.toInt ∧ v0.toInt ≤ 2147483647) → ((-2147483648) ≤ v1.toInt ∧ v1.toInt ≤ 2147483647) → (0 ≤ v2.toInt ∧ v2.toInt ≤ 1) → ((-2147483648) ≤ v3.toInt ∧ v3.toInt ≤ 2147483647) → h[29]? = some (.inr (11, [.int v0, .int v1, .int v2, .int v3, .ref 30])) → P) : P := by
  obtain ⟨v0, v1, v2, v3, b0, b1, b2, b3, A⟩ := xq_29 T
  exact kk v0 v1 v2 v3 b0 b1 b2 b3 A
theorem xq_31 {h : xe_H} (T : xt h) : ∃ (v0 : Int32) (v1 : Int32) (v2 : Int32) (v3 : Int32), ((-2147483648) ≤ v0.toInt ∧ v0.toInt ≤ 2147483647) ∧ ((-2147483648) ≤ v1.toInt ∧ v1.toInt ≤ 2147483647) ∧ (0 ≤ v2.toInt ∧ v2.toInt ≤ 1) ∧ ((-2147483648) ≤ v3.toInt ∧ v3.toInt ≤ 2147483647) ∧ h[31]? = some (.inr (11, [.int v0, .int v1, .int v2, .int v3, .ref 32])) := by
  obtain ⟨fs, A, a0⟩ := xk_obj T xD_31
  obtain ⟨w0, r0, rfl, t0, a1⟩ := xt_cons a0
  obtain ⟨v0, rfl, b0⟩ := t0
  obtain ⟨w1, r1, rfl, t1, a2⟩ := xt_cons a1
  obtain ⟨v1, rfl, b1⟩ := t1
  obtain ⟨w2, r2, rfl, t2, a3⟩ := xt_cons a2
  obtain ⟨v2, rfl, b2⟩ := t2
  obtain ⟨w3, r3, rfl, t3, a4⟩ := xt_cons a3
  obtain ⟨v3, rfl, b3⟩ := t3
  obtain ⟨w4, r4, rfl, t4, a5⟩ := xt_cons a4
  obtain rfl := t4
  obtain rfl := xt_nil a5
  exact ⟨v0, v1, v2, v3, b0, b1, b2, b3, A⟩
theorem xp_31 {h : xe_H} (T : xt h) {P : Prop} (kk : ∀ (v0 : Int32) (v1 : Int32) (v2 : Int32) (v3 : Int32), ((-2147483648) ≤ v0.toInt ∧ v0.toInt ≤ 2147483647) → ((-2147483648) ≤ v1.toInt ∧ v1.toInt ≤ 2147483647) → (0 ≤ v2.toInt ∧ v2.toInt ≤ 1) → ((-2147483648) ≤ v3.toInt ∧ v3.toInt ≤ 2147483647) → h[31]? = some (.inr (11, [.int v0, .int v1, .int v2, .int v3, .ref 32])) → P) : P := by
  obtain ⟨v0, v1, v2, v3, b0, b1, b2, b3, A⟩ := xq_31 T
  exact kk v0 v1 v2 v3 b0 b1 b2 b3 A
theorem xq_33 {h : xe_H} (T : xt h) : ∃ (v0 : Int32) (v1 : Int32) (v2 : Int32) (v3 : Int32), ((-2147483648) ≤ v0.toInt ∧ v0.toInt ≤ 2147483647) ∧ ((-2147483648) ≤ v1.toInt ∧ v1.toInt ≤ 2147483647) ∧ (0 ≤ v2.toInt ∧ v2.toInt ≤ 1) ∧ ((-2147483648) ≤ v3.toInt ∧ v3.toInt ≤ 2147483647) ∧ h[33]? = some (.inr (11, [.int v0, .int v1, .int v2, .int v3, .ref 34])) := by
  obtain ⟨fs, A, a0⟩ := xk_obj T xD_33
  obtain ⟨w0, r0, rfl, t0, a1⟩ := xt_cons a0
  obtain ⟨v0, rfl, b0⟩ := t0
  obtain ⟨w1, r1, rfl, t1, a2⟩ := xt_cons a1
  obtain ⟨v1, rfl, b1⟩ := t1
  obtain ⟨w2, r2, rfl, t2, a3⟩ := xt_cons a2
  obtain ⟨v2, rfl, b2⟩ := t2
  obtain ⟨w3, r3, rfl, t3, a4⟩ := xt_cons a3
  obtain ⟨v3, rfl, b3⟩ := t3
  obtain ⟨w4, r4, rfl, t4, a5⟩ := xt_cons a4
  obtain rfl := t4
  obtain rfl := xt_nil a5
  exact ⟨v0, v1, v2, v3, b0, b1, b2, b3, A⟩
theorem xp_33 {h : xe_H} (T : xt h) {P : Prop} (kk : ∀ (v0 : Int32) (v1 : Int32) (v2 : Int32) (v3 : Int32), ((-2147483648) ≤ v0.toInt ∧ v0.toInt ≤ 2147483647) → ((-2147483648) ≤ v1.toInt ∧ v1.toInt ≤ 2147483647) → (0 ≤ v2.toInt ∧ v2.toInt ≤ 1) → ((-2147483648) ≤ v3.toInt ∧ v3.toInt ≤ 2147483647) → h[33]? = some (.inr (11, [.int v0, .int v1, .int v2, .int v3, .ref 34])) → P) : P := by
  obtain ⟨v0, v1, v2, v3, b0, b1, b2, b3, A⟩ := xq_33 T
  exact kk v0 v1 v2 v3 b0 b1 b2 b3 A
theorem xq_35 {h : xe_H} (T : xt h) : ∃ (v0 : Int32) (v1 : Int32) (v2 : Int32) (v3 : Int32), ((-2147483648) ≤ v0.toInt ∧ v0.toInt ≤ 2147483647) ∧ ((-2147483648) ≤ v1.toInt ∧ v1.toInt ≤ 2147483647) ∧ (0 ≤ v2.toInt ∧ v2.toInt ≤ 1) ∧ ((-2147483648) ≤ v3.toInt ∧ v3.toInt ≤ 2147483647) ∧ h[35]? = some (.inr (11, [.int v0, .int v1, .int v2, .int v3, .ref 36])) := by
  obtain ⟨fs, A, a0⟩ := xk_obj T xD_35
  obtain ⟨w0, r0, rfl, t0, a1⟩ := xt_cons a0
  obtain ⟨v0, rfl, b0⟩ := t0
  obtain ⟨w1, r1, rfl, t1, a2⟩ := xt_cons a1
  obtain ⟨v1, rfl, b1⟩ := t1
  obtain ⟨w2, r2, rfl, t2, a3⟩ := xt_cons a2
  obtain ⟨v2, rfl, b2⟩ := t2
  obtain ⟨w3, r3, rfl, t3, a4⟩ := xt_cons a3
  obtain ⟨v3, rfl, b3⟩ := t3
  obtain ⟨w4, r4, rfl, t4, a5⟩ := xt_cons a4
  obtain rfl := t4
  obtain rfl := xt_nil a5
  exact ⟨v0, v1, v2, v3, b0, b1, b2, b3, A⟩
theorem xp_35 {h : xe_H} (T : xt h) {P : Prop} (kk : ∀ (v0 : Int32) (v1 : Int32) (v2 : Int32) (v3 : Int32), ((-2147483648) ≤ v0.toInt ∧ v0.toInt ≤ 2147483647) → ((-2147483648) ≤ v1.toInt ∧ v1.toInt ≤ 2147483647) → (0 ≤ v2.toInt ∧ v2.toInt ≤ 1) → ((-2147483648) ≤ v3.toInt ∧ v3.toInt ≤ 2147483647) → h[35]? = some (.inr (11, [.int v0, .int v1, .int v2, .int v3, .ref 36])) → P) : P := by
  obtain ⟨v0, v1, v2, v3, b0, b1, b2, b3, A⟩ := xq_35 T
  exact kk v0 v1 v2 v3 b0 b1 b2 b3 A
theorem xq_37 {h : xe_H} (T : xt h) : ∃ (v0 : Int32) (v1 : Int32) (v2 : Int32) (v3 : Int32), ((-2147483648) ≤ v0.toInt ∧ v0.toInt ≤ 2147483647) ∧ ((-2147483648) ≤ v1.toInt ∧ v1.toInt ≤ 2147483647) ∧ (0 ≤ v2.toInt ∧ v2.toInt ≤ 1) ∧ ((-2147483648) ≤ v3.toInt ∧ v3.toInt ≤ 2147483647) ∧ h[37]? = some (.inr (11, [.int v0, .int v1, .int v2, .int v3, .ref 38])) := by
  obtain ⟨fs, A, a0⟩ := xk_obj T xD_37
  obtain ⟨w0, r0, rfl, t0, a1⟩ := xt_cons a0
  obtain ⟨v0, rfl, b0⟩ := t0
  obtain ⟨w1, r1, rfl, t1, a2⟩ := xt_cons a1
  obtain ⟨v1, rfl, b1⟩ := t1
  obtain ⟨w2, r2, rfl, t2, a3⟩ := xt_cons a2
  obtain ⟨v2, rfl, b2⟩ := t2
  obtain ⟨w3, r3, rfl, t3, a4⟩ := xt_cons a3
  obtain ⟨v3, rfl, b3⟩ := t3
  obtain ⟨w4, r4, rfl, t4, a5⟩ := xt_cons a4
  obtain rfl := t4
  obtain rfl := xt_nil a5
  exact ⟨v0, v1, v2, v3, b0, b1, b2, b3, A⟩
theorem xp_37 {h : xe_H} (T : xt h) {P : Prop} (kk : ∀ (v0 : Int32) (v1 : Int32) (v2 : Int32) (v3 : Int32), ((-2147483648) ≤ v0.toInt ∧ v0.toInt ≤ 2147483647) → ((-2147483648) ≤ v1.toInt ∧ v1.toInt ≤ 2147483647) → (0 ≤ v2.toInt ∧ v2.toInt ≤ 1) → ((-2147483648) ≤ v3.toInt ∧ v3.toInt ≤ 2147483647) → h[37]? = some (.inr (11, [.int v0, .int v1, .int v2, .int v3, .ref 38])) → P) : P := by
  obtain ⟨v0, v1, v2, v3, b0, b1, b2, b3, A⟩ := xq_37 T
  exact kk v0 v1 v2 v3 b0 b1 b2 b3 A
theorem xq_39 {h : xe_H} (T : xt h) : ∃ (v0 : Int32) (v1 : Int32) (v2 : Int32) (v3 : Int32), ((-2147483648) ≤ v0.toInt ∧ v0.toInt ≤ 2147483647) ∧ ((-2147483648) ≤ v1.toInt ∧ v1.toInt ≤ 2147483647) ∧ (0 ≤ v2.toInt ∧ v2.toInt ≤ 1) ∧ ((-2147483648) ≤ v3.toInt ∧ v3.toInt ≤ 2147483647) ∧ h[39]? = some (.inr (11, [.int v0, .int v1, .int v2, .int v3, .ref 40])) := by
  obtain ⟨fs, A, a0⟩ := xk_obj T xD_39
  obtain ⟨w0, r0, rfl, t0, a1⟩ := xt_cons a0
  obtain ⟨v0, rfl, b0⟩ := t0
  obtain ⟨w1, r1, rfl, t1, a2⟩ := xt_cons a1
  obtain ⟨v1, rfl, b1⟩ := t1
  obtain ⟨w2, r2, rfl, t2, a3⟩ := xt_cons a2
  obtain ⟨v2, rfl, b2⟩ := t2
  obtain ⟨w3, r3, rfl, t3, a4⟩ := xt_cons a3
  obtain ⟨v3, rfl, b3⟩ := t3
  obtain ⟨w4, r4, rfl, t4, a5⟩ := xt_cons a4
  obtain rfl := t4
  obtain rfl := xt_nil a5
  exact ⟨v0, v1, v2, v3, b0, b1, b2, b3, A⟩
theorem xp_39 {h : xe_H} (T : xt h) {P : Prop} (kk : ∀ (v0 : Int32) (v1 : Int32) (v2 : Int32) (v3 : Int32), ((-2147483648) ≤ v0.toInt ∧ v0.toInt ≤ 2147483647) → ((-2147483648) ≤ v1.toInt ∧ v1.toInt ≤ 2147483647) → (0 ≤ v2.toInt ∧ v2.toInt ≤ 1) → ((-2147483648) ≤ v3.toInt ∧ v3.toInt ≤ 2147483647) → h[39]? = some (.inr (11, [.int v0, .int v1, .int v2, .int v3, .ref 40])) → P) : P := by
  obtain ⟨v0, v1, v2, v3, b0, b1, b2, b3, A⟩ := xq_39 T
  exact kk v0 v1 v2 v3 b0 b1 b2 b3 A
theorem xq_41 {h : xe_H} (T : xt h) : ∃ (v0 : Int32) (v1 : Int32) (v2 : Int32) (v3 : Int32), ((-2147483648) ≤ v0.toInt ∧ v0.toInt ≤ 2147483647) ∧ ((-2147483648) ≤ v1.toInt ∧ v1.toInt ≤ 2147483647) ∧ (0 ≤ v2.toInt ∧ v2.toInt ≤ 1) ∧ ((-2147483648) ≤ v3.toInt ∧ v3.toInt ≤ 2147483647) ∧ h[41]? = some (.inr (11, [.int v0, .int v1, .int v2, .int v3, .ref 42])) := by
  obtain ⟨fs, A, a0⟩ := xk_obj T xD_41
  obtain ⟨w0, r0, rfl, t0, a1⟩ := xt_cons a0
  obtain ⟨v0, rfl, b0⟩ := t0
  obtain ⟨w1, r1, rfl, t1, a2⟩ := xt_cons a1
  obtain ⟨v1, rfl, b1⟩ := t1
  obtain ⟨w2, r2, rfl, t2, a3⟩ := xt_cons a2
  obtain ⟨v2, rfl, b2⟩ := t2
  obtain ⟨w3, r3, rfl, t3, a4⟩ := xt_cons a3
  obtain ⟨v3, rfl, b3⟩ := t3
  obtain ⟨w4, r4, rfl, t4, a5⟩ := xt_cons a4
  obtain rfl := t4
  obtain rfl := xt_nil a5
  exact ⟨v0, v1, v2, v3, b0, b1, b2, b3, A⟩
theorem xp_41 {h : xe_H} (T : xt h) {P : Prop} (kk : ∀ (v0 : Int32) (v1 : Int32) (v2 : Int32) (v3 : Int32), ((-2147483648) ≤ v0.toInt ∧ v0.toInt ≤ 2147483647) → ((-2147483648) ≤ v1.toInt ∧ v1.toInt ≤ 2147483647) → (0 ≤ v2.toInt ∧ v2.toInt ≤ 1) → ((-2147483648) ≤ v3.toInt ∧ v3.toInt ≤ 2147483647) → h[41]? = some (.inr (11, [.int v0, .int v1, .int v2, .int v3, .ref 42])) → P) : P := by
  obtain ⟨v0, v1, v2, v3, b0, b1, b2, b3, A⟩ := xq_41 T
  exact kk v0 v1 v2 v3 b0 b1 b2 b3 A
theorem xq_43 {h : xe_H} (T : xt h) : ∃ (v0 : Int32) (v1 : Int32) (v2 : Int32) (v3 : Int32), ((-2147483648) ≤ v0.toInt ∧ v0.toInt ≤ 2147483647) ∧ ((-2147483648) ≤ v1.toInt ∧ v1.toInt ≤ 2147483647) ∧ (0 ≤ v2.toInt ∧ v2.toInt ≤ 1) ∧ ((-2147483648) ≤ v3.toInt ∧ v3.toInt ≤ 2147483647) ∧ h[43]? = some (.inr (11, [.int v0, .int v1, .int v2, .int v3, .ref 44])) := by
  obtain ⟨fs, A, a0⟩ := xk_obj T xD_43
  obtain ⟨w0, r0, rfl, t0, a1⟩ := xt_cons a0
  obtain ⟨v0, rfl, b0⟩ := t0
  obtain ⟨w1, r1, rfl, t1, a2⟩ := xt_cons a1
  obtain ⟨v1, rfl, b1⟩ := t1
  obtain ⟨w2, r2, rfl, t2, a3⟩ := xt_cons a2
  obtain ⟨v2, rfl, b2⟩ := t2
  obtain ⟨w3, r3, rfl, t3, a4⟩ := xt_cons a3
  obtain ⟨v3, rfl, b3⟩ := t3
  obtain ⟨w4, r4, rfl, t4, a5⟩ := xt_cons a4
  obtain rfl := t4
  obtain rfl := xt_nil a5
  exact ⟨v0, v1, v2, v3, b0, b1, b2, b3, A⟩
theorem xp_43 {h : xe_H} (T : xt h) {P : Prop} (kk : ∀ (v0 : Int32) (v1 : Int32) (v2 : Int32) (v3 : Int32), ((-2147483648) ≤ v0.toInt ∧ v0.toInt ≤ 2147483647) → ((-2147483648) ≤ v1.toInt ∧ v1.toInt ≤ 2147483647) → (0 ≤ v2.toInt ∧ v2.toInt ≤ 1) → ((-2147483648) ≤ v3.toInt ∧ v3.toInt ≤ 2147483647) → h[43]? = some (.inr (11, [.int v0, .int v1, .int v2, .int v3, .ref 44])) → P) : P := by
  obtain ⟨v0, v1, v2, v3, b0, b1, b2, b3, A⟩ := xq_43 T
  exact kk v0 v1 v2 v3 b0 b1 b2 b3 A
theorem xq_45 {h : xe_H} (T : xt h) : ∃ (v0 : Int32) (v1 : Int32) (v2 : Int32) (v3 : Int32), ((-2147483648) ≤ v0.toInt ∧ v0.toInt ≤ 2147483647) ∧ ((-2147483648) ≤ v1.toInt ∧ v1.toInt ≤ 2147483647) ∧ (0 ≤ v2.toInt ∧ v2.toInt ≤ 1) ∧ ((-2147483648) ≤ v3.toInt ∧ v3.toInt ≤ 2147483647) ∧ h[45]? = some (.inr (11, [.int v0, .int v1, .int v2, .int v3, .ref 46])) := by
  obtain ⟨fs, A, a0⟩ := xk_obj T xD_45
  obtain ⟨w0, r0, rfl, t0, a1⟩ := xt_cons a0
  obtain ⟨v0, rfl, b0⟩ := t0
  obtain ⟨w1, r1, rfl, t1, a2⟩ := xt_cons a1
  obtain ⟨v1, rfl, b1⟩ := t1
  obtain ⟨w2, r2, rfl, t2, a3⟩ := xt_cons a2
  obtain ⟨v2, rfl, b2⟩ := t2
  obtain ⟨w3, r3, rfl, t3, a4⟩ := xt_cons a3
  obtain ⟨v3, rfl, b3⟩ := t3
  obtain ⟨w4, r4, rfl, t4, a5⟩ := xt_cons a4
  obtain rfl := t4
  obtain rfl := xt_nil a5
  exact ⟨v0, v1, v2, v3, b0, b1, b2, b3, A⟩
theorem xp_45 {h : xe_H} (T : xt h) {P : Prop} (kk : ∀ (v0 : Int32) (v1 : Int32) (v2 : Int32) (v3 : Int32), ((-2147483648) ≤ v0.toInt ∧ v0.toInt ≤ 2147483647) → ((-2147483648) ≤ v1.toInt ∧ v1.toInt ≤ 2147483647) → (0 ≤ v2.toInt ∧ v2.toInt ≤ 1) → ((-2147483648) ≤ v3.toInt ∧ v3.toInt ≤ 2147483647) → h[45]? = some (.inr (11, [.int v0, .int v1, .int v2, .int v3, .ref 46])) → P) : P := by
  obtain ⟨v0, v1, v2, v3, b0, b1, b2, b3, A⟩ := xq_45 T
  exact kk v0 v1 v2 v3 b0 b1 b2 b3 A
theorem xq_47 {h : xe_H} (T : xt h) : ∃ (v0 : Int32) (v1 : Int32) (v2 : Int32) (v3 : Int32), ((-2147483648) ≤ v0.toInt ∧ v0.toInt ≤ 2147483647) ∧ ((-2147483648) ≤ v1.toInt ∧ v1.toInt ≤ 2147483647) ∧ (0 ≤ v2.toInt ∧ v2.toInt ≤ 1) ∧ ((-2147483648) ≤ v3.toInt ∧ v3.toInt ≤ 2147483647) ∧ h[47]? = some (.inr (11, [.int v0, .int v1, .int v2, .int v3, .ref 48])) := by
  obtain ⟨fs, A, a0⟩ := xk_obj T xD_47
  obtain ⟨w0, r0, rfl, t0, a1⟩ := xt_cons a0
  obtain ⟨v0, rfl, b0⟩ := t0
  obtain ⟨w1, r1, rfl, t1, a2⟩ := xt_cons a1
  obtain ⟨v1, rfl, b1⟩ := t1
  obtain ⟨w2, r2, rfl, t2, a3⟩ := xt_cons a2
  obtain ⟨v2, rfl, b2⟩ := t2
  obtain ⟨w3, r3, rfl, t3, a4⟩ := xt_cons a3
  obtain ⟨v3, rfl, b3⟩ := t3
  obtain ⟨w4, r4, rfl, t4, a5⟩ := xt_cons a4
  obtain rfl := t4
  obtain rfl := xt_nil a5
  exact ⟨v0, v1, v2, v3, b0, b1, b2, b3, A⟩
theorem xp_47 {h : xe_H} (T : xt h) {P : Prop} (kk : ∀ (v0 : Int32) (v1 : Int32) (v2 : Int32) (v3 : Int32), ((-2147483648) ≤ v0.toInt ∧ v0.toInt ≤ 2147483647) → ((-2147483648) ≤ v1.toInt ∧ v1.toInt ≤ 2147483647) → (0 ≤ v2.toInt ∧ v2.toInt ≤ 1) → ((-2147483648) ≤ v3.toInt ∧ v3.toInt ≤ 2147483647) → h[47]? = some (.inr (11, [.int v0, .int v1, .int v2, .int v3, .ref 48])) → P) : P := by
  obtain ⟨v0, v1, v2, v3, b0, b1, b2, b3, A⟩ := xq_47 T
  exact kk v0 v1 v2 v3 b0 b1 b2 b3 A
theorem xq_49 {h : xe_H} (T : xt h) : ∃ (v0 : Int32) (v1 : Int32) (v2 : Int32) (v3 : Int32), ((-2147483648) ≤ v0.toInt ∧ v0.toInt ≤ 2147483647) ∧ ((-2147483648) ≤ v1.toInt ∧ v1.toInt ≤ 2147483647) ∧ (0 ≤ v2.toInt ∧ v2.toInt ≤ 1) ∧ ((-2147483648) ≤ v3.toInt ∧ v3.toInt ≤ 2147483647) ∧ h[49]? = some (.inr (11, [.int v0, .int v1, .int v2, .int v3, .ref 50])) := by
  obtain ⟨fs, A, a0⟩ := xk_obj T xD_49
  obtain ⟨w0, r0, rfl, t0, a1⟩ := xt_cons a0
  obtain ⟨v0, rfl, b0⟩ := t0
  obtain ⟨w1, r1, rfl, t1, a2⟩ := xt_cons a1
  obtain ⟨v1, rfl, b1⟩ := t1
  obtain ⟨w2, r2, rfl, t2, a3⟩ := xt_cons a2
  obtain ⟨v2, rfl, b2⟩ := t2
  obtain ⟨w3, r3, rfl, t3, a4⟩ := xt_cons a3
  obtain ⟨v3, rfl, b3⟩ := t3
  obtain ⟨w4, r4, rfl, t4, a5⟩ := xt_cons a4
  obtain rfl := t4
  obtain rfl := xt_nil a5
  exact ⟨v0, v1, v2, v3, b0, b1, b2, b3, A⟩
theorem xp_49 {h : xe_H} (T : xt h) {P : Prop} (kk : ∀ (v0 : Int32) (v1 : Int32) (v2 : Int32) (v3 : Int32), ((-2147483648) ≤ v0.toInt ∧ v0.toInt ≤ 2147483647) → ((-2147483648) ≤ v1.toInt ∧ v1.toInt ≤ 2147483647) → (0 ≤ v2.toInt ∧ v2.toInt ≤ 1) → ((-2147483648) ≤ v3.toInt ∧ v3.toInt ≤ 2147483647) → h[49]? = some (.inr (11, [.int v0, .int v1, .int v2, .int v3, .ref 50])) → P) : P := by
  obtain ⟨v0, v1, v2, v3, b0, b1, b2, b3, A⟩ := xq_49 T
  exact kk v0 v1 v2 v3 b0 b1 b2 b3 A
theorem xq_51 {h : xe_H} (T : xt h) : ∃ (v0 : Int32) (v1 : Int32) (v2 : Int32) (v3 : Int32), ((-2147483648) ≤ v0.toInt ∧ v0.toInt ≤ 2147483647) ∧ ((-2147483648) ≤ v1.toInt ∧ v1.toInt ≤ 2147483647) ∧ (0 ≤ v2.toInt ∧ v2.toInt ≤ 1) ∧ ((-2147483648) ≤ v3.toInt ∧ v3.toInt ≤ 2147483647) ∧ h[51]? = some (.inr (11, [.int v0, .int v1, .int v2, .int v3, .ref 52])) := by
  obtain ⟨fs, A, a0⟩ := xk_obj T xD_51
  obtain ⟨w0, r0, rfl, t0, a1⟩ := xt_cons a0
  obtain ⟨v0, rfl, b0⟩ := t0
  obtain ⟨w1, r1, rfl, t1, a2⟩ := xt_cons a1
  obtain ⟨v1, rfl, b1⟩ := t1
  obtain ⟨w2, r2, rfl, t2, a3⟩ := xt_cons a2
  obtain ⟨v2, rfl, b2⟩ := t2
  obtain ⟨w3, r3, rfl, t3, a4⟩ := xt_cons a3
  obtain ⟨v3, rfl, b3⟩ := t3
  obtain ⟨w4, r4, rfl, t4, a5⟩ := xt_cons a4
  obtain rfl := t4
  obtain rfl := xt_nil a5
  exact ⟨v0, v1, v2, v3, b0, b1, b2, b3, A⟩
theorem xp_51 {h : xe_H} (T : xt h) {P : Prop} (kk : ∀ (v0 : Int32) (v1 : Int32) (v2 : Int32) (v3 : Int32), ((-2147483648) ≤ v0.toInt ∧ v0.toInt ≤ 2147483647) → ((-2147483648) ≤ v1.toInt ∧ v1.toInt ≤ 2147483647) → (0 ≤ v2.toInt ∧ v2.toInt ≤ 1) → ((-2147483648) ≤ v3.toInt ∧ v3.toInt ≤ 2147483647) → h[51]? = some (.inr (11, [.int v0, .int v1, .int v2, .int v3, .ref 52])) → P) : P := by
  obtain ⟨v0, v1, v2, v3, b0, b1, b2, b3, A⟩ := xq_51 T
  exact kk v0 v1 v2 v3 b0 b1 b2 b3 A
theorem xq_53 {h : xe_H} (T : xt h) : ∃ (v0 : Int32) (v1 : Int32) (v2 : Int32) (v3 : Int32), ((-2147483648) ≤ v0.toInt ∧ v0.toInt ≤ 2147483647) ∧ ((-2147483648) ≤ v1.toInt ∧ v1.toInt ≤ 2147483647) ∧ ((-2147483648) ≤ v2.toInt ∧ v2.toInt ≤ 2147483647) ∧ ((-2147483648) ≤ v3.toInt ∧ v3.toInt ≤ 2147483647) ∧ h[53]? = some (.inr (1, [.int v0, .int v1, .int v2, .int v3])) := by
  obtain ⟨fs, A, a0⟩ := xk_obj T xD_53
  obtain ⟨w0, r0, rfl, t0, a1⟩ := xt_cons a0
  obtain ⟨v0, rfl, b0⟩ := t0
  obtain ⟨w1, r1, rfl, t1, a2⟩ := xt_cons a1
  obtain ⟨v1, rfl, b1⟩ := t1
  obtain ⟨w2, r2, rfl, t2, a3⟩ := xt_cons a2
  obtain ⟨v2, rfl, b2⟩ := t2
  obtain ⟨w3, r3, rfl, t3, a4⟩ := xt_cons a3
  obtain ⟨v3, rfl, b3⟩ := t3
  obtain rfl := xt_nil a4
  exact ⟨v0, v1, v2, v3, b0, b1, b2, b3, A⟩
theorem xp_53 {h : xe_H} (T : xt h) {P : Prop} (kk : ∀ (v0 : Int32) (v1 : Int32) (v2 : Int32) (v3 : Int32), ((-2147483648) ≤ v0.toInt ∧ v0.toInt ≤ 2147483647) → ((-2147483648) ≤ v1.toInt ∧ v1.toInt ≤ 2147483647) → ((-2147483648) ≤ v2.toInt ∧ v2.toInt ≤ 2147483647) → ((-2147483648) ≤ v3.toInt ∧ v3.toInt ≤ 2147483647) → h[53]? = some (.inr (1, [.int v0, .int v1, .int v2, .int v3])) → P) : P := by
  obtain ⟨v0, v1, v2, v3, b0, b1, b2, b3, A⟩ := xq_53 T
  exact kk v0 v1 v2 v3 b0 b1 b2 b3 A
theorem xq_54 {h : xe_H} (T : xt h) : ∃ (v0 : Int32) (v1 : Int32) (v2 : Int32) (v3 : Int32), ((-2147483648) ≤ v0.toInt ∧ v0.toInt ≤ 2147483647) ∧ ((-2147483648) ≤ v1.toInt ∧ v1.toInt ≤ 2147483647) ∧ ((-2147483648) ≤ v2.toInt ∧ v2.toInt ≤ 2147483647) ∧ ((-2147483648) ≤ v3.toInt ∧ v3.toInt ≤ 2147483647) ∧ h[54]? = some (.inr (1, [.int v0, .int v1, .int v2, .int v3])) := by
  obtain ⟨fs, A, a0⟩ := xk_obj T xD_54
  obtain ⟨w0, r0, rfl, t0, a1⟩ := xt_cons a0
  obtain ⟨v0, rfl, b0⟩ := t0
  obtain ⟨w1, r1, rfl, t1, a2⟩ := xt_cons a1
  obtain ⟨v1, rfl, b1⟩ := t1
  obtain ⟨w2, r2, rfl, t2, a3⟩ := xt_cons a2
  obtain ⟨v2, rfl, b2⟩ := t2
  obtain ⟨w3, r3, rfl, t3, a4⟩ := xt_cons a3
  obtain ⟨v3, rfl, b3⟩ := t3
  obtain rfl := xt_nil a4
  exact ⟨v0, v1, v2, v3, b0, b1, b2, b3, A⟩
theorem xp_54 {h : xe_H} (T : xt h) {P : Prop} (kk : ∀ (v0 : Int32) (v1 : Int32) (v2 : Int32) (v3 : Int32), ((-2147483648) ≤ v0.toInt ∧ v0.toInt ≤ 2147483647) → ((-2147483648) ≤ v1.toInt ∧ v1.toInt ≤ 2147483647) → ((-2147483648) ≤ v2.toInt ∧ v2.toInt ≤ 2147483647) → ((-2147483648) ≤ v3.toInt ∧ v3.toInt ≤ 2147483647) → h[54]? = some (.inr (1, [.int v0, .int v1, .int v2, .int v3])) → P) : P := by
  obtain ⟨v0, v1, v2, v3, b0, b1, b2, b3, A⟩ := xq_54 T
  exact kk v0 v1 v2 v3 b0 b1 b2 b3 A
theorem xq_55 {h : xe_H} (T : xt h) : ∃ (v0 : Int32) (v1 : Int32) (v2 : Int32) (v3 : Int32), ((-2147483648) ≤ v0.toInt ∧ v0.toInt ≤ 2147483647) ∧ ((-2147483648) ≤ v1.toInt ∧ v1.toInt ≤ 2147483647) ∧ ((-2147483648) ≤ v2.toInt ∧ v2.toInt ≤ 2147483647) ∧ ((-2147483648) ≤ v3.toInt ∧ v3.toInt ≤ 2147483647) ∧ h[55]? = some (.inr (1, [.int v0, .int v1, .int v2, .int v3])) := by
  obtain ⟨fs, A, a0⟩ := xk_obj T xD_55
  obtain ⟨w0, r0, rfl, t0, a1⟩ := xt_cons a0
  obtain ⟨v0, rfl, b0⟩ := t0
  obtain ⟨w1, r1, rfl, t1, a2⟩ := xt_cons a1
  obtain ⟨v1, rfl, b1⟩ := t1
  obtain ⟨w2, r2, rfl, t2, a3⟩ := xt_cons a2
  obtain ⟨v2, rfl, b2⟩ := t2
  obtain ⟨w3, r3, rfl, t3, a4⟩ := xt_cons a3
  obtain ⟨v3, rfl, b3⟩ := t3
  obtain rfl := xt_nil a4
  exact ⟨v0, v1, v2, v3, b0, b1, b2, b3, A⟩
theorem xp_55 {h : xe_H} (T : xt h) {P : Prop} (kk : ∀ (v0 : Int32) (v1 : Int32) (v2 : Int32) (v3 : Int32), ((-2147483648) ≤ v0.toInt ∧ v0.toInt ≤ 2147483647) → ((-2147483648) ≤ v1.toInt ∧ v1.toInt ≤ 2147483647) → ((-2147483648) ≤ v2.toInt ∧ v2.toInt ≤ 2147483647) → ((-2147483648) ≤ v3.toInt ∧ v3.toInt ≤ 2147483647) → h[55]? = some (.inr (1, [.int v0, .int v1, .int v2, .int v3])) → P) : P := by
  obtain ⟨v0, v1, v2, v3, b0, b1, b2, b3, A⟩ := xq_55 T
  exact kk v0 v1 v2 v3 b0 b1 b2 b3 A
theorem xq_56 {h : xe_H} (T : xt h) : ∃ (v0 : Int32) (v1 : Int32) (v2 : Int32) (v3 : Int32), ((-2147483648) ≤ v0.toInt ∧ v0.toInt ≤ 2147483647) ∧ ((-2147483648) ≤ v1.toInt ∧ v1.toInt ≤ 2147483647) ∧ ((-2147483648) ≤ v2.toInt ∧ v2.toInt ≤ 2147483647) ∧ ((-2147483648) ≤ v3.toInt ∧ v3.toInt ≤ 2147483647) ∧ h[56]? = some (.inr (1, [.int v0, .int v1, .int v2, .int v3])) := by
  obtain ⟨fs, A, a0⟩ := xk_obj T xD_56
  obtain ⟨w0, r0, rfl, t0, a1⟩ := xt_cons a0
  obtain ⟨v0, rfl, b0⟩ := t0
  obtain ⟨w1, r1, rfl, t1, a2⟩ := xt_cons a1
  obtain ⟨v1, rfl, b1⟩ := t1
  obtain ⟨w2, r2, rfl, t2, a3⟩ := xt_cons a2
  obtain ⟨v2, rfl, b2⟩ := t2
  obtain ⟨w3, r3, rfl, t3, a4⟩ := xt_cons a3
  obtain ⟨v3, rfl, b3⟩ := t3
  obtain rfl := xt_nil a4
  exact ⟨v0, v1, v2, v3, b0, b1, b2, b3, A⟩
theorem xp_56 {h : xe_H} (T : xt h) {P : Prop} (kk : ∀ (v0 : Int32) (v1 : Int32) (v2 : Int32) (v3 : Int32), ((-2147483648) ≤ v0.toInt ∧ v0.toInt ≤ 2147483647) → ((-2147483648) ≤ v1.toInt ∧ v1.toInt ≤ 2147483647) → ((-2147483648) ≤ v2.toInt ∧ v2.toInt ≤ 2147483647) → ((-2147483648) ≤ v3.toInt ∧ v3.toInt ≤ 2147483647) → h[56]? = some (.inr (1, [.int v0, .int v1, .int v2, .int v3])) → P) : P := by
  obtain ⟨v0, v1, v2, v3, b0, b1, b2, b3, A⟩ := xq_56 T
  exact kk v0 v1 v2 v3 b0 b1 b2 b3 A
theorem xq_57 {h : xe_H} (T : xt h) : ∃ (v0 : Int32) (v1 : Int32) (v2 : Int32) (v3 : Int32), ((-2147483648) ≤ v0.toInt ∧ v0.toInt ≤ 2147483647) ∧ ((-2147483648) ≤ v1.toInt ∧ v1.toInt ≤ 2147483647) ∧ ((-2147483648) ≤ v2.toInt ∧ v2.toInt ≤ 2147483647) ∧ ((-2147483648) ≤ v3.toInt ∧ v3.toInt ≤ 2147483647) ∧ h[57]? = some (.inr (1, [.int v0, .int v1, .int v2, .int v3])) := by
  obtain ⟨fs, A, a0⟩ := xk_obj T xD_57
  obtain ⟨w0, r0, rfl, t0, a1⟩ := xt_cons a0
  obtain ⟨v0, rfl, b0⟩ := t0
  obtain ⟨w1, r1, rfl, t1, a2⟩ := xt_cons a1
  obtain ⟨v1, rfl, b1⟩ := t1
  obtain ⟨w2, r2, rfl, t2, a3⟩ := xt_cons a2
  obtain ⟨v2, rfl, b2⟩ := t2
  obtain ⟨w3, r3, rfl, t3, a4⟩ := xt_cons a3
  obtain ⟨v3, rfl, b3⟩ := t3
  obtain rfl := xt_nil a4
  exact ⟨v0, v1, v2, v3, b0, b1, b2, b3, A⟩
theorem xp_57 {h : xe_H} (T : xt h) {P : Prop} (kk : ∀ (v0 : Int32) (v1 : Int32) (v2 : Int32) (v3 : Int32), ((-2147483648) ≤ v0.toInt ∧ v0.toInt ≤ 2147483647) → ((-2147483648) ≤ v1.toInt ∧ v1.toInt ≤ 2147483647) → ((-2147483648) ≤ v2.toInt ∧ v2.toInt ≤ 2147483647) → ((-2147483648) ≤ v3.toInt ∧ v3.toInt ≤ 2147483647) → h[57]? = some (.inr (1, [.int v0, .int v1, .int v2, .int v3])) → P) : P := by
  obtain ⟨v0, v1, v2, v3, b0, b1, b2, b3, A⟩ := xq_57 T
  exact kk v0 v1 v2 v3 b0 b1 b2 b3 A
theorem xq_58 {h : xe_H} (T : xt h) : ∃ (v0 : Int32) (v1 : Int32) (v2 : Int32) (v3 : Int32), ((-2147483648) ≤ v0.toInt ∧ v0.toInt ≤ 2147483647) ∧ ((-2147483648) ≤ v1.toInt ∧ v1.toInt ≤ 2147483647) ∧ ((-2147483648) ≤ v2.toInt ∧ v2.toInt ≤ 2147483647) ∧ ((-2147483648) ≤ v3.toInt ∧ v3.toInt ≤ 2147483647) ∧ h[58]? = some (.inr (1, [.int v0, .int v1, .int v2, .int v3])) := by
  obtain ⟨fs, A, a0⟩ := xk_obj T xD_58
  obtain ⟨w0, r0, rfl, t0, a1⟩ := xt_cons a0
  obtain ⟨v0, rfl, b0⟩ := t0
  obtain ⟨w1, r1, rfl, t1, a2⟩ := xt_cons a1
  obtain ⟨v1, rfl, b1⟩ := t1
  obtain ⟨w2, r2, rfl, t2, a3⟩ := xt_cons a2
  obtain ⟨v2, rfl, b2⟩ := t2
  obtain ⟨w3, r3, rfl, t3, a4⟩ := xt_cons a3
  obtain ⟨v3, rfl, b3⟩ := t3
  obtain rfl := xt_nil a4
  exact ⟨v0, v1, v2, v3, b0, b1, b2, b3, A⟩
theorem xp_58 {h : xe_H} (T : xt h) {P : Prop} (kk : ∀ (v0 : Int32) (v1 : Int32) (v2 : Int32) (v3 : Int32), ((-2147483648) ≤ v0.toInt ∧ v0.toInt ≤ 2147483647) → ((-2147483648) ≤ v1.toInt ∧ v1.toInt ≤ 2147483647) → ((-2147483648) ≤ v2.toInt ∧ v2.toInt ≤ 2147483647) → ((-2147483648) ≤ v3.toInt ∧ v3.toInt ≤ 2147483647) → h[58]? = some (.inr (1, [.int v0, .int v1, .int v2, .int v3])) → P) : P := by
  obtain ⟨v0, v1, v2, v3, b0, b1, b2, b3, A⟩ := xq_58 T
  exact kk v0 v1 v2 v3 b0 b1 b2 b3 A
theorem xq_59 {h : xe_H} (T : xt h) : ∃ (v0 : Int32) (v1 : Int32) (v2 : Int32) (v3 : Int32), ((-2147483648) ≤ v0.toInt ∧ v0.toInt ≤ 2147483647) ∧ ((-2147483648) ≤ v1.toInt ∧ v1.toInt ≤ 2147483647) ∧ ((-2147483648) ≤ v2.toInt ∧ v2.toInt ≤ 2147483647) ∧ ((-2147483648) ≤ v3.toInt ∧ v3.toInt ≤ 2147483647) ∧ h[59]? = some (.inr (1, [.int v0, .int v1, .int v2, .int v3])) := by
  obtain ⟨fs, A, a0⟩ := xk_obj T xD_59
  obtain ⟨w0, r0, rfl, t0, a1⟩ := xt_cons a0
  obtain ⟨v0, rfl, b0⟩ := t0
  obtain ⟨w1, r1, rfl, t1, a2⟩ := xt_cons a1
  obtain ⟨v1, rfl, b1⟩ := t1
  obtain ⟨w2, r2, rfl, t2, a3⟩ := xt_cons a2
  obtain ⟨v2, rfl, b2⟩ := t2
  obtain ⟨w3, r3, rfl, t3, a4⟩ := xt_cons a3
  obtain ⟨v3, rfl, b3⟩ := t3
  obtain rfl := xt_nil a4
  exact ⟨v0, v1, v2, v3, b0, b1, b2, b3, A⟩
theorem xp_59 {h : xe_H} (T : xt h) {P : Prop} (kk : ∀ (v0 : Int32) (v1 : Int32) (v2 : Int32) (v3 : Int32), ((-2147483648) ≤ v0.toInt ∧ v0.toInt ≤ 2147483647) → ((-2147483648) ≤ v1.toInt ∧ v1.toInt ≤ 2147483647) → ((-2147483648) ≤ v2.toInt ∧ v2.toInt ≤ 2147483647) → ((-2147483648) ≤ v3.toInt ∧ v3.toInt ≤ 2147483647) → h[59]? = some (.inr (1, [.int v0, .int v1, .int v2, .int v3])) → P) : P := by
  obtain ⟨v0, v1, v2, v3, b0, b1, b2, b3, A⟩ := xq_59 T
  exact kk v0 v1 v2 v3 b0 b1 b2 b3 A
theorem xq_60 {h : xe_H} (T : xt h) : ∃ (v0 : Int32) (v1 : Int32) (v2 : Int32) (v3 : Int32), ((-2147483648) ≤ v0.toInt ∧ v0.toInt ≤ 2147483647) ∧ ((-2147483648) ≤ v1.toInt ∧ v1.toInt ≤ 2147483647) ∧ ((-2147483648) ≤ v2.toInt ∧ v2.toInt ≤ 2147483647) ∧ ((-2147483648) ≤ v3.toInt ∧ v3.toInt ≤ 2147483647) ∧ h[60]? = some (.inr (1, [.int v0, .int v1, .int v2, .int v3])) := by
  obtain ⟨fs, A, a0⟩ := xk_obj T xD_60
  obtain ⟨w0, r0, rfl, t0, a1⟩ := xt_cons a0
  obtain ⟨v0, rfl, b0⟩ := t0
  obtain ⟨w1, r1, rfl, t1, a2⟩ := xt_cons a1
  obtain ⟨v1, rfl, b1⟩ := t1
  obtain ⟨w2, r2, rfl, t2, a3⟩ := xt_cons a2
  obtain ⟨v2, rfl, b2⟩ := t2
  obtain ⟨w3, r3, rfl, t3, a4⟩ := xt_cons a3
  obtain ⟨v3, rfl, b3⟩ := t3
  obtain rfl := xt_nil a4
  exact ⟨v0, v1, v2, v3, b0, b1, b2, b3, A⟩
theorem xp_60 {h : xe_H} (T : xt h) {P : Prop} (kk : ∀ (v0 : Int32) (v1 : Int32) (v2 : Int32) (v3 : Int32), ((-2147483648) ≤ v0.toInt ∧ v0.toInt ≤ 2147483647) → ((-2147483648) ≤ v1.toInt ∧ v1.toInt ≤ 2147483647) → ((-2147483648) ≤ v2.toInt ∧ v2.toInt ≤ 2147483647) → ((-2147483648) ≤ v3.toInt ∧ v3.toInt ≤ 2147483647) → h[60]? = some (.inr (1, [.int v0, .int v1, .int v2, .int v3])) → P) : P := by
  obtain ⟨v0, v1, v2, v3, b0, b1, b2, b3, A⟩ := xq_60 T
  exact kk v0 v1 v2 v3 b0 b1 b2 b3 A
theorem xq_61 {h : xe_H} (T : xt h) : ∃ (v0 : Int32) (v1 : Int32) (v2 : Int32) (v3 : Int32), ((-2147483648) ≤ v0.toInt ∧ v0.toInt ≤ 2147483647) ∧ ((-2147483648) ≤ v1.toInt ∧ v1.toInt ≤ 2147483647) ∧ ((-2147483648) ≤ v2.toInt ∧ v2.toInt ≤ 2147483647) ∧ ((-2147483648) ≤ v3.toInt ∧ v3.toInt ≤ 2147483647) ∧ h[61]? = some (.inr (1, [.int v0, .int v1, .int v2, .int v3])) := by
  obtain ⟨fs, A, a0⟩ := xk_obj T xD_61
  obtain ⟨w0, r0, rfl, t0, a1⟩ := xt_cons a0
  obtain ⟨v0, rfl, b0⟩ := t0
  obtain ⟨w1, r1, rfl, t1, a2⟩ := xt_cons a1
  obtain ⟨v1, rfl, b1⟩ := t1
  obtain ⟨w2, r2, rfl, t2, a3⟩ := xt_cons a2
  obtain ⟨v2, rfl, b2⟩ := t2
  obtain ⟨w3, r3, rfl, t3, a4⟩ := xt_cons a3
  obtain ⟨v3, rfl, b3⟩ := t3
  obtain rfl := xt_nil a4
  exact ⟨v0, v1, v2, v3, b0, b1, b2, b3, A⟩
theorem xp_61 {h : xe_H} (T : xt h) {P : Prop} (kk : ∀ (v0 : Int32) (v1 : Int32) (v2 : Int32) (v3 : Int32), ((-2147483648) ≤ v0.toInt ∧ v0.toInt ≤ 2147483647) → ((-2147483648) ≤ v1.toInt ∧ v1.toInt ≤ 2147483647) → ((-2147483648) ≤ v2.toInt ∧ v2.toInt ≤ 2147483647) → ((-2147483648) ≤ v3.toInt ∧ v3.toInt ≤ 2147483647) → h[61]? = some (.inr (1, [.int v0, .int v1, .int v2, .int v3])) → P) : P := by
  obtain ⟨v0, v1, v2, v3, b0, b1, b2, b3, A⟩ := xq_61 T
  exact kk v0 v1 v2 v3 b0 b1 b2 b3 A
theorem xq_62 {h : xe_H} (T : xt h) : ∃ (v0 : Int32) (v1 : Int32) (v2 : Int32) (v3 : Int32), ((-2147483648) ≤ v0.toInt ∧ v0.toInt ≤ 2147483647) ∧ ((-2147483648) ≤ v1.toInt ∧ v1.toInt ≤ 2147483647) ∧ ((-2147483648) ≤ v2.toInt ∧ v2.toInt ≤ 2147483647) ∧ ((-2147483648) ≤ v3.toInt ∧ v3.toInt ≤ 2147483647) ∧ h[62]? = some (.inr (1, [.int v0, .int v1, .int v2, .int v3])) := by
  obtain ⟨fs, A, a0⟩ := xk_obj T xD_62
  obtain ⟨w0, r0, rfl, t0, a1⟩ := xt_cons a0
  obtain ⟨v0, rfl, b0⟩ := t0
  obtain ⟨w1, r1, rfl, t1, a2⟩ := xt_cons a1
  obtain ⟨v1, rfl, b1⟩ := t1
  obtain ⟨w2, r2, rfl, t2, a3⟩ := xt_cons a2
  obtain ⟨v2, rfl, b2⟩ := t2
  obtain ⟨w3, r3, rfl, t3, a4⟩ := xt_cons a3
  obtain ⟨v3, rfl, b3⟩ := t3
  obtain rfl := xt_nil a4
  exact ⟨v0, v1, v2, v3, b0, b1, b2, b3, A⟩
theorem xp_62 {h : xe_H} (T : xt h) {P : Prop} (kk : ∀ (v0 : Int32) (v1 : Int32) (v2 : Int32) (v3 : Int32), ((-2147483648) ≤ v0.toInt ∧ v0.toInt ≤ 2147483647) → ((-2147483648) ≤ v1.toInt ∧ v1.toInt ≤ 2147483647) → ((-2147483648) ≤ v2.toInt ∧ v2.toInt ≤ 2147483647) → ((-2147483648) ≤ v3.toInt ∧ v3.toInt ≤ 2147483647) → h[62]? = some (.inr (1, [.int v0, .int v1, .int v2, .int v3])) → P) : P := by
  obtain ⟨v0, v1, v2, v3, b0, b1, b2, b3, A⟩ := xq_62 T
  exact kk v0 v1 v2 v3 b0 b1 b2 b3 A
theorem xq_63 {h : xe_H} (T : xt h) : ∃ (v2 : Int32) (v3 : Int32), ((-2147483648) ≤ v2.toInt ∧ v2.toInt ≤ 2147483647) ∧ ((-2147483648) ≤ v3.toInt ∧ v3.toInt ≤ 2147483647) ∧ h[63]? = some (.inr (9, [.ref 64, .ref 65, .int v2, .int v3])) := by
  obtain ⟨fs, A, a0⟩ := xk_obj T xD_63
  obtain ⟨w0, r0, rfl, t0, a1⟩ := xt_cons a0
  obtain rfl := t0
  obtain ⟨w1, r1, rfl, t1, a2⟩ := xt_cons a1
  obtain rfl := t1
  obtain ⟨w2, r2, rfl, t2, a3⟩ := xt_cons a2
  obtain ⟨v2, rfl, b2⟩ := t2
  obtain ⟨w3, r3, rfl, t3, a4⟩ := xt_cons a3
  obtain ⟨v3, rfl, b3⟩ := t3
  obtain rfl := xt_nil a4
  exact ⟨v2, v3, b2, b3, A⟩
theorem xp_63 {h : xe_H} (T : xt h) {P : Prop} (kk : ∀ (v2 : Int32) (v3 : Int32), ((-2147483648) ≤ v2.toInt ∧ v2.toInt ≤ 2147483647) → ((-2147483648) ≤ v3.toInt ∧ v3.toInt ≤ 2147483647) → h[63]? = some (.inr (9, [.ref 64, .ref 65, .int v2, .int v3])) → P) : P := by
  obtain ⟨v2, v3, b2, b3, A⟩ := xq_63 T
  exact kk v2 v3 b2 b3 A
theorem xq_66 {h : xe_H} (T : xt h) : ∃ (v8 : Int32) (v7 : Int64), (0 ≤ v8.toInt ∧ v8.toInt ≤ 60) ∧ h[66]? = some (.inr (3, [.ref 1, .ref 67, .ref 70, .ref 71, .ref 72, .ref 73, .ref 74, .long v7, .int v8])) := by
  obtain ⟨fs, A, a0⟩ := xk_obj T xD_66
  obtain ⟨w0, r0, rfl, t0, a1⟩ := xt_cons a0
  obtain rfl := t0
  obtain ⟨w1, r1, rfl, t1, a2⟩ := xt_cons a1
  obtain rfl := t1
  obtain ⟨w2, r2, rfl, t2, a3⟩ := xt_cons a2
  obtain rfl := t2
  obtain ⟨w3, r3, rfl, t3, a4⟩ := xt_cons a3
  obtain rfl := t3
  obtain ⟨w4, r4, rfl, t4, a5⟩ := xt_cons a4
  obtain rfl := t4
  obtain ⟨w5, r5, rfl, t5, a6⟩ := xt_cons a5
  obtain rfl := t5
  obtain ⟨w6, r6, rfl, t6, a7⟩ := xt_cons a6
  obtain rfl := t6
  obtain ⟨w7, r7, rfl, t7, a8⟩ := xt_cons a7
  obtain ⟨v7, rfl⟩ := t7
  obtain ⟨w8, r8, rfl, t8, a9⟩ := xt_cons a8
  obtain ⟨v8, rfl, b8⟩ := t8
  obtain rfl := xt_nil a9
  exact ⟨v8, v7, b8, A⟩
theorem xp_66 {h : xe_H} (T : xt h) {P : Prop} (kk : ∀ (v8 : Int32) (v7 : Int64), (0 ≤ v8.toInt ∧ v8.toInt ≤ 60) → h[66]? = some (.inr (3, [.ref 1, .ref 67, .ref 70, .ref 71, .ref 72, .ref 73, .ref 74, .long v7, .int v8])) → P) : P := by
  obtain ⟨v8, v7, b8, A⟩ := xq_66 T
  exact kk v8 v7 b8 A
theorem xq_67 {h : xe_H} (T : xt h) : ∃ (v2 : Int32) (v3 : Int32), ((-2147483648) ≤ v2.toInt ∧ v2.toInt ≤ 2147483647) ∧ ((-2147483648) ≤ v3.toInt ∧ v3.toInt ≤ 2147483647) ∧ h[67]? = some (.inr (9, [.ref 68, .ref 69, .int v2, .int v3])) := by
  obtain ⟨fs, A, a0⟩ := xk_obj T xD_67
  obtain ⟨w0, r0, rfl, t0, a1⟩ := xt_cons a0
  obtain rfl := t0
  obtain ⟨w1, r1, rfl, t1, a2⟩ := xt_cons a1
  obtain rfl := t1
  obtain ⟨w2, r2, rfl, t2, a3⟩ := xt_cons a2
  obtain ⟨v2, rfl, b2⟩ := t2
  obtain ⟨w3, r3, rfl, t3, a4⟩ := xt_cons a3
  obtain ⟨v3, rfl, b3⟩ := t3
  obtain rfl := xt_nil a4
  exact ⟨v2, v3, b2, b3, A⟩
theorem xp_67 {h : xe_H} (T : xt h) {P : Prop} (kk : ∀ (v2 : Int32) (v3 : Int32), ((-2147483648) ≤ v2.toInt ∧ v2.toInt ≤ 2147483647) → ((-2147483648) ≤ v3.toInt ∧ v3.toInt ≤ 2147483647) → h[67]? = some (.inr (9, [.ref 68, .ref 69, .int v2, .int v3])) → P) : P := by
  obtain ⟨v2, v3, b2, b3, A⟩ := xq_67 T
  exact kk v2 v3 b2 b3 A
theorem xq_75 {h : xe_H} (T : xt h) : ∃ (v4 : Int32), (0 ≤ v4.toInt ∧ v4.toInt ≤ 8) ∧ h[75]? = some (.inr (6, [.ref 76, .ref 77, .ref 78, .ref 79, .int v4])) := by
  obtain ⟨fs, A, a0⟩ := xk_obj T xD_75
  obtain ⟨w0, r0, rfl, t0, a1⟩ := xt_cons a0
  obtain rfl := t0
  obtain ⟨w1, r1, rfl, t1, a2⟩ := xt_cons a1
  obtain rfl := t1
  obtain ⟨w2, r2, rfl, t2, a3⟩ := xt_cons a2
  obtain rfl := t2
  obtain ⟨w3, r3, rfl, t3, a4⟩ := xt_cons a3
  obtain rfl := t3
  obtain ⟨w4, r4, rfl, t4, a5⟩ := xt_cons a4
  obtain ⟨v4, rfl, b4⟩ := t4
  obtain rfl := xt_nil a5
  exact ⟨v4, b4, A⟩
theorem xp_75 {h : xe_H} (T : xt h) {P : Prop} (kk : ∀ (v4 : Int32), (0 ≤ v4.toInt ∧ v4.toInt ≤ 8) → h[75]? = some (.inr (6, [.ref 76, .ref 77, .ref 78, .ref 79, .int v4])) → P) : P := by
  obtain ⟨v4, b4, A⟩ := xq_75 T
  exact kk v4 b4 A
theorem xq_80 {h : xe_H} (T : xt h) : h[80]? = some (.inr (2, [.ref 81, .ref 82, .ref 83, .ref 84])) := by
  obtain ⟨fs, A, a0⟩ := xk_obj T xD_80
  obtain ⟨w0, r0, rfl, t0, a1⟩ := xt_cons a0
  obtain rfl := t0
  obtain ⟨w1, r1, rfl, t1, a2⟩ := xt_cons a1
  obtain rfl := t1
  obtain ⟨w2, r2, rfl, t2, a3⟩ := xt_cons a2
  obtain rfl := t2
  obtain ⟨w3, r3, rfl, t3, a4⟩ := xt_cons a3
  obtain rfl := t3
  obtain rfl := xt_nil a4
  exact A
theorem xq_85 {h : xe_H} (T : xt h) : ∃ (v7 : Int32) (v8 : Int32), (0 ≤ v7.toInt ∧ v7.toInt ≤ 1) ∧ (0 ≤ v8.toInt ∧ v8.toInt ≤ 12) ∧ h[85]? = some (.inr (5, [.ref 86, .ref 87, .ref 88, .ref 89, .ref 90, .ref 91, .ref 92, .int v7, .int v8])) := by
  obtain ⟨fs, A, a0⟩ := xk_obj T xD_85
  obtain ⟨w0, r0, rfl, t0, a1⟩ := xt_cons a0
  obtain rfl := t0
  obtain ⟨w1, r1, rfl, t1, a2⟩ := xt_cons a1
  obtain rfl := t1
  obtain ⟨w2, r2, rfl, t2, a3⟩ := xt_cons a2
  obtain rfl := t2
  obtain ⟨w3, r3, rfl, t3, a4⟩ := xt_cons a3
  obtain rfl := t3
  obtain ⟨w4, r4, rfl, t4, a5⟩ := xt_cons a4
  obtain rfl := t4
  obtain ⟨w5, r5, rfl, t5, a6⟩ := xt_cons a5
  obtain rfl := t5
  obtain ⟨w6, r6, rfl, t6, a7⟩ := xt_cons a6
  obtain rfl := t6
  obtain ⟨w7, r7, rfl, t7, a8⟩ := xt_cons a7
  obtain ⟨v7, rfl, b7⟩ := t7
  obtain ⟨w8, r8, rfl, t8, a9⟩ := xt_cons a8
  obtain ⟨v8, rfl, b8⟩ := t8
  obtain rfl := xt_nil a9
  exact ⟨v7, v8, b7, b8, A⟩
theorem xp_85 {h : xe_H} (T : xt h) {P : Prop} (kk : ∀ (v7 : Int32) (v8 : Int32), (0 ≤ v7.toInt ∧ v7.toInt ≤ 1) → (0 ≤ v8.toInt ∧ v8.toInt ≤ 12) → h[85]? = some (.inr (5, [.ref 86, .ref 87, .ref 88, .ref 89, .ref 90, .ref 91, .ref 92, .int v7, .int v8])) → P) : P := by
  obtain ⟨v7, v8, b7, b8, A⟩ := xq_85 T
  exact kk v7 v8 b7 b8 A
theorem xq_95 {h : xe_H} (T : xt h) : ∃ (v0 : Int32) (v1 : Int32) (v2 : Int32) (v3 : Int32) (v4 : Int32) (v5 : Int32), ((-2147483648) ≤ v0.toInt ∧ v0.toInt ≤ 2147483647) ∧ ((-2147483648) ≤ v1.toInt ∧ v1.toInt ≤ 2147483647) ∧ ((-2147483648) ≤ v2.toInt ∧ v2.toInt ≤ 2147483647) ∧ ((-2147483648) ≤ v3.toInt ∧ v3.toInt ≤ 2147483647) ∧ ((-2147483648) ≤ v4.toInt ∧ v4.toInt ≤ 2147483647) ∧ ((-2147483648) ≤ v5.toInt ∧ v5.toInt ≤ 2147483647) ∧ h[95]? = some (.inr (10, [.int v0, .int v1, .int v2, .int v3, .int v4, .int v5])) := by
  obtain ⟨fs, A, a0⟩ := xk_obj T xD_95
  obtain ⟨w0, r0, rfl, t0, a1⟩ := xt_cons a0
  obtain ⟨v0, rfl, b0⟩ := t0
  obtain ⟨w1, r1, rfl, t1, a2⟩ := xt_cons a1
  obtain ⟨v1, rfl, b1⟩ := t1
  obtain ⟨w2, r2, rfl, t2, a3⟩ := xt_cons a2
  obtain ⟨v2, rfl, b2⟩ := t2
  obtain ⟨w3, r3, rfl, t3, a4⟩ := xt_cons a3
  obtain ⟨v3, rfl, b3⟩ := t3
  obtain ⟨w4, r4, rfl, t4, a5⟩ := xt_cons a4
  obtain ⟨v4, rfl, b4⟩ := t4
  obtain ⟨w5, r5, rfl, t5, a6⟩ := xt_cons a5
  obtain ⟨v5, rfl, b5⟩ := t5
  obtain rfl := xt_nil a6
  exact ⟨v0, v1, v2, v3, v4, v5, b0, b1, b2, b3, b4, b5, A⟩
theorem xp_95 {h : xe_H} (T : xt h) {P : Prop} (kk : ∀ (v0 : Int32) (v1 : Int32) (v2 : Int32) (v3 : Int32) (v4 : Int32) (v5 : Int32), ((-2147483648) ≤ v0.toInt ∧ v0.toInt ≤ 2147483647) → ((-2147483648) ≤ v1.toInt ∧ v1.toInt ≤ 2147483647) → ((-2147483648) ≤ v2.toInt ∧ v2.toInt ≤ 2147483647) → ((-2147483648) ≤ v3.toInt ∧ v3.toInt ≤ 2147483647) → ((-2147483648) ≤ v4.toInt ∧ v4.toInt ≤ 2147483647) → ((-2147483648) ≤ v5.toInt ∧ v5.toInt ≤ 2147483647) → h[95]? = some (.inr (10, [.int v0, .int v1, .int v2, .int v3, .int v4, .int v5])) → P) : P := by
  obtain ⟨v0, v1, v2, v3, v4, v5, b0, b1, b2, b3, b4, b5, A⟩ := xq_95 T
  exact kk v0 v1 v2 v3 v4 v5 b0 b1 b2 b3 b4 b5 A
theorem xq_96 {h : xe_H} (T : xt h) : ∃ (v0 : Int32) (v1 : Int32) (v2 : Int32) (v3 : Int32) (v4 : Int32) (v5 : Int32), ((-2147483648) ≤ v0.toInt ∧ v0.toInt ≤ 2147483647) ∧ ((-2147483648) ≤ v1.toInt ∧ v1.toInt ≤ 2147483647) ∧ ((-2147483648) ≤ v2.toInt ∧ v2.toInt ≤ 2147483647) ∧ ((-2147483648) ≤ v3.toInt ∧ v3.toInt ≤ 2147483647) ∧ ((-2147483648) ≤ v4.toInt ∧ v4.toInt ≤ 2147483647) ∧ ((-2147483648) ≤ v5.toInt ∧ v5.toInt ≤ 2147483647) ∧ h[96]? = some (.inr (10, [.int v0, .int v1, .int v2, .int v3, .int v4, .int v5])) := by
  obtain ⟨fs, A, a0⟩ := xk_obj T xD_96
  obtain ⟨w0, r0, rfl, t0, a1⟩ := xt_cons a0
  obtain ⟨v0, rfl, b0⟩ := t0
  obtain ⟨w1, r1, rfl, t1, a2⟩ := xt_cons a1
  obtain ⟨v1, rfl, b1⟩ := t1
  obtain ⟨w2, r2, rfl, t2, a3⟩ := xt_cons a2
  obtain ⟨v2, rfl, b2⟩ := t2
  obtain ⟨w3, r3, rfl, t3, a4⟩ := xt_cons a3
  obtain ⟨v3, rfl, b3⟩ := t3
  obtain ⟨w4, r4, rfl, t4, a5⟩ := xt_cons a4
  obtain ⟨v4, rfl, b4⟩ := t4
  obtain ⟨w5, r5, rfl, t5, a6⟩ := xt_cons a5
  obtain ⟨v5, rfl, b5⟩ := t5
  obtain rfl := xt_nil a6
  exact ⟨v0, v1, v2, v3, v4, v5, b0, b1, b2, b3, b4, b5, A⟩
theorem xp_96 {h : xe_H} (T : xt h) {P : Prop} (kk : ∀ (v0 : Int32) (v1 : Int32) (v2 : Int32) (v3 : Int32) (v4 : Int32) (v5 : Int32), ((-2147483648) ≤ v0.toInt ∧ v0.toInt ≤ 2147483647) → ((-2147483648) ≤ v1.toInt ∧ v1.toInt ≤ 2147483647) → ((-2147483648) ≤ v2.toInt ∧ v2.toInt ≤ 2147483647) → ((-2147483648) ≤ v3.toInt ∧ v3.toInt ≤ 2147483647) → ((-2147483648) ≤ v4.toInt ∧ v4.toInt ≤ 2147483647) → ((-2147483648) ≤ v5.toInt ∧ v5.toInt ≤ 2147483647) → h[96]? = some (.inr (10, [.int v0, .int v1, .int v2, .int v3, .int v4, .int v5])) → P) : P := by
  obtain ⟨v0, v1, v2, v3, v4, v5, b0, b1, b2, b3, b4, b5, A⟩ := xq_96 T
  exact kk v0 v1 v2 v3 v4 v5 b0 b1 b2 b3 b4 b5 A
theorem xq_97 {h : xe_H} (T : xt h) : ∃ (v0 : Int32) (v1 : Int32) (v2 : Int32) (v3 : Int32) (v4 : Int32) (v5 : Int32), ((-2147483648) ≤ v0.toInt ∧ v0.toInt ≤ 2147483647) ∧ ((-2147483648) ≤ v1.toInt ∧ v1.toInt ≤ 2147483647) ∧ ((-2147483648) ≤ v2.toInt ∧ v2.toInt ≤ 2147483647) ∧ ((-2147483648) ≤ v3.toInt ∧ v3.toInt ≤ 2147483647) ∧ ((-2147483648) ≤ v4.toInt ∧ v4.toInt ≤ 2147483647) ∧ ((-2147483648) ≤ v5.toInt ∧ v5.toInt ≤ 2147483647) ∧ h[97]? = some (.inr (10, [.int v0, .int v1, .int v2, .int v3, .int v4, .int v5])) := by
  obtain ⟨fs, A, a0⟩ := xk_obj T xD_97
  obtain ⟨w0, r0, rfl, t0, a1⟩ := xt_cons a0
  obtain ⟨v0, rfl, b0⟩ := t0
  obtain ⟨w1, r1, rfl, t1, a2⟩ := xt_cons a1
  obtain ⟨v1, rfl, b1⟩ := t1
  obtain ⟨w2, r2, rfl, t2, a3⟩ := xt_cons a2
  obtain ⟨v2, rfl, b2⟩ := t2
  obtain ⟨w3, r3, rfl, t3, a4⟩ := xt_cons a3
  obtain ⟨v3, rfl, b3⟩ := t3
  obtain ⟨w4, r4, rfl, t4, a5⟩ := xt_cons a4
  obtain ⟨v4, rfl, b4⟩ := t4
  obtain ⟨w5, r5, rfl, t5, a6⟩ := xt_cons a5
  obtain ⟨v5, rfl, b5⟩ := t5
  obtain rfl := xt_nil a6
  exact ⟨v0, v1, v2, v3, v4, v5, b0, b1, b2, b3, b4, b5, A⟩
theorem xp_97 {h : xe_H} (T : xt h) {P : Prop} (kk : ∀ (v0 : Int32) (v1 : Int32) (v2 : Int32) (v3 : Int32) (v4 : Int32) (v5 : Int32), ((-2147483648) ≤ v0.toInt ∧ v0.toInt ≤ 2147483647) → ((-2147483648) ≤ v1.toInt ∧ v1.toInt ≤ 2147483647) → ((-2147483648) ≤ v2.toInt ∧ v2.toInt ≤ 2147483647) → ((-2147483648) ≤ v3.toInt ∧ v3.toInt ≤ 2147483647) → ((-2147483648) ≤ v4.toInt ∧ v4.toInt ≤ 2147483647) → ((-2147483648) ≤ v5.toInt ∧ v5.toInt ≤ 2147483647) → h[97]? = some (.inr (10, [.int v0, .int v1, .int v2, .int v3, .int v4, .int v5])) → P) : P := by
  obtain ⟨v0, v1, v2, v3, v4, v5, b0, b1, b2, b3, b4, b5, A⟩ := xq_97 T
  exact kk v0 v1 v2 v3 v4 v5 b0 b1 b2 b3 b4 b5 A
theorem xq_98 {h : xe_H} (T : xt h) : ∃ (v0 : Int32) (v1 : Int32) (v2 : Int32) (v3 : Int32) (v4 : Int32) (v5 : Int32), ((-2147483648) ≤ v0.toInt ∧ v0.toInt ≤ 2147483647) ∧ ((-2147483648) ≤ v1.toInt ∧ v1.toInt ≤ 2147483647) ∧ ((-2147483648) ≤ v2.toInt ∧ v2.toInt ≤ 2147483647) ∧ ((-2147483648) ≤ v3.toInt ∧ v3.toInt ≤ 2147483647) ∧ ((-2147483648) ≤ v4.toInt ∧ v4.toInt ≤ 2147483647) ∧ ((-2147483648) ≤ v5.toInt ∧ v5.toInt ≤ 2147483647) ∧ h[98]? = some (.inr (10, [.int v0, .int v1, .int v2, .int v3, .int v4, .int v5])) := by
  obtain ⟨fs, A, a0⟩ := xk_obj T xD_98
  obtain ⟨w0, r0, rfl, t0, a1⟩ := xt_cons a0
  obtain ⟨v0, rfl, b0⟩ := t0
  obtain ⟨w1, r1, rfl, t1, a2⟩ := xt_cons a1
  obtain ⟨v1, rfl, b1⟩ := t1
  obtain ⟨w2, r2, rfl, t2, a3⟩ := xt_cons a2
  obtain ⟨v2, rfl, b2⟩ := t2
  obtain ⟨w3, r3, rfl, t3, a4⟩ := xt_cons a3
  obtain ⟨v3, rfl, b3⟩ := t3
  obtain ⟨w4, r4, rfl, t4, a5⟩ := xt_cons a4
  obtain ⟨v4, rfl, b4⟩ := t4
  obtain ⟨w5, r5, rfl, t5, a6⟩ := xt_cons a5
  obtain ⟨v5, rfl, b5⟩ := t5
  obtain rfl := xt_nil a6
  exact ⟨v0, v1, v2, v3, v4, v5, b0, b1, b2, b3, b4, b5, A⟩
theorem xp_98 {h : xe_H} (T : xt h) {P : Prop} (kk : ∀ (v0 : Int32) (v1 : Int32) (v2 : Int32) (v3 : Int32) (v4 : Int32) (v5 : Int32), ((-2147483648) ≤ v0.toInt ∧ v0.toInt ≤ 2147483647) → ((-2147483648) ≤ v1.toInt ∧ v1.toInt ≤ 2147483647) → ((-2147483648) ≤ v2.toInt ∧ v2.toInt ≤ 2147483647) → ((-2147483648) ≤ v3.toInt ∧ v3.toInt ≤ 2147483647) → ((-2147483648) ≤ v4.toInt ∧ v4.toInt ≤ 2147483647) → ((-2147483648) ≤ v5.toInt ∧ v5.toInt ≤ 2147483647) → h[98]? = some (.inr (10, [.int v0, .int v1, .int v2, .int v3, .int v4, .int v5])) → P) : P := by
  obtain ⟨v0, v1, v2, v3, v4, v5, b0, b1, b2, b3, b4, b5, A⟩ := xq_98 T
  exact kk v0 v1 v2 v3 v4 v5 b0 b1 b2 b3 b4 b5 A
theorem xq_99 {h : xe_H} (T : xt h) : ∃ (v0 : Int32) (v1 : Int32) (v2 : Int32) (v3 : Int32) (v4 : Int32) (v5 : Int32), ((-2147483648) ≤ v0.toInt ∧ v0.toInt ≤ 2147483647) ∧ ((-2147483648) ≤ v1.toInt ∧ v1.toInt ≤ 2147483647) ∧ ((-2147483648) ≤ v2.toInt ∧ v2.toInt ≤ 2147483647) ∧ ((-2147483648) ≤ v3.toInt ∧ v3.toInt ≤ 2147483647) ∧ ((-2147483648) ≤ v4.toInt ∧ v4.toInt ≤ 2147483647) ∧ ((-2147483648) ≤ v5.toInt ∧ v5.toInt ≤ 2147483647) ∧ h[99]? = some (.inr (10, [.int v0, .int v1, .int v2, .int v3, .int v4, .int v5])) := by
  obtain ⟨fs, A, a0⟩ := xk_obj T xD_99
  obtain ⟨w0, r0, rfl, t0, a1⟩ := xt_cons a0
  obtain ⟨v0, rfl, b0⟩ := t0
  obtain ⟨w1, r1, rfl, t1, a2⟩ := xt_cons a1
  obtain ⟨v1, rfl, b1⟩ := t1
  obtain ⟨w2, r2, rfl, t2, a3⟩ := xt_cons a2
  obtain ⟨v2, rfl, b2⟩ := t2
  obtain ⟨w3, r3, rfl, t3, a4⟩ := xt_cons a3
  obtain ⟨v3, rfl, b3⟩ := t3
  obtain ⟨w4, r4, rfl, t4, a5⟩ := xt_cons a4
  obtain ⟨v4, rfl, b4⟩ := t4
  obtain ⟨w5, r5, rfl, t5, a6⟩ := xt_cons a5
  obtain ⟨v5, rfl, b5⟩ := t5
  obtain rfl := xt_nil a6
  exact ⟨v0, v1, v2, v3, v4, v5, b0, b1, b2, b3, b4, b5, A⟩
theorem xp_99 {h : xe_H} (T : xt h) {P : Prop} (kk : ∀ (v0 : Int32) (v1 : Int32) (v2 : Int32) (v3 : Int32) (v4 : Int32) (v5 : Int32), ((-2147483648) ≤ v0.toInt ∧ v0.toInt ≤ 2147483647) → ((-2147483648) ≤ v1.toInt ∧ v1.toInt ≤ 2147483647) → ((-2147483648) ≤ v2.toInt ∧ v2.toInt ≤ 2147483647) → ((-2147483648) ≤ v3.toInt ∧ v3.toInt ≤ 2147483647) → ((-2147483648) ≤ v4.toInt ∧ v4.toInt ≤ 2147483647) → ((-2147483648) ≤ v5.toInt ∧ v5.toInt ≤ 2147483647) → h[99]? = some (.inr (10, [.int v0, .int v1, .int v2, .int v3, .int v4, .int v5])) → P) : P := by
  obtain ⟨v0, v1, v2, v3, v4, v5, b0, b1, b2, b3, b4, b5, A⟩ := xq_99 T
  exact kk v0 v1 v2 v3 v4 v5 b0 b1 b2 b3 b4 b5 A
theorem xq_100 {h : xe_H} (T : xt h) : ∃ (v0 : Int32) (v1 : Int32) (v2 : Int32) (v3 : Int32) (v4 : Int32) (v5 : Int32), ((-2147483648) ≤ v0.toInt ∧ v0.toInt ≤ 2147483647) ∧ ((-2147483648) ≤ v1.toInt ∧ v1.toInt ≤ 2147483647) ∧ ((-2147483648) ≤ v2.toInt ∧ v2.toInt ≤ 2147483647) ∧ ((-2147483648) ≤ v3.toInt ∧ v3.toInt ≤ 2147483647) ∧ ((-2147483648) ≤ v4.toInt ∧ v4.toInt ≤ 2147483647) ∧ ((-2147483648) ≤ v5.toInt ∧ v5.toInt ≤ 2147483647) ∧ h[100]? = some (.inr (10, [.int v0, .int v1, .int v2, .int v3, .int v4, .int v5])) := by
  obtain ⟨fs, A, a0⟩ := xk_obj T xD_100
  obtain ⟨w0, r0, rfl, t0, a1⟩ := xt_cons a0
  obtain ⟨v0, rfl, b0⟩ := t0
  obtain ⟨w1, r1, rfl, t1, a2⟩ := xt_cons a1
  obtain ⟨v1, rfl, b1⟩ := t1
  obtain ⟨w2, r2, rfl, t2, a3⟩ := xt_cons a2
  obtain ⟨v2, rfl, b2⟩ := t2
  obtain ⟨w3, r3, rfl, t3, a4⟩ := xt_cons a3
  obtain ⟨v3, rfl, b3⟩ := t3
  obtain ⟨w4, r4, rfl, t4, a5⟩ := xt_cons a4
  obtain ⟨v4, rfl, b4⟩ := t4
  obtain ⟨w5, r5, rfl, t5, a6⟩ := xt_cons a5
  obtain ⟨v5, rfl, b5⟩ := t5
  obtain rfl := xt_nil a6
  exact ⟨v0, v1, v2, v3, v4, v5, b0, b1, b2, b3, b4, b5, A⟩
theorem xp_100 {h : xe_H} (T : xt h) {P : Prop} (kk : ∀ (v0 : Int32) (v1 : Int32) (v2 : Int32) (v3 : Int32) (v4 : Int32) (v5 : Int32), ((-2147483648) ≤ v0.toInt ∧ v0.toInt ≤ 2147483647) → ((-2147483648) ≤ v1.toInt ∧ v1.toInt ≤ 2147483647) → ((-2147483648) ≤ v2.toInt ∧ v2.toInt ≤ 2147483647) → ((-2147483648) ≤ v3.toInt ∧ v3.toInt ≤ 2147483647) → ((-2147483648) ≤ v4.toInt ∧ v4.toInt ≤ 2147483647) → ((-2147483648) ≤ v5.toInt ∧ v5.toInt ≤ 2147483647) → h[100]? = some (.inr (10, [.int v0, .int v1, .int v2, .int v3, .int v4, .int v5])) → P) : P := by
  obtain ⟨v0, v1, v2, v3, v4, v5, b0, b1, b2, b3, b4, b5, A⟩ := xq_100 T
  exact kk v0 v1 v2 v3 v4 v5 b0 b1 b2 b3 b4 b5 A
theorem xq_101 {h : xe_H} (T : xt h) : ∃ (v0 : Int32) (v1 : Int32) (v2 : Int32) (v3 : Int32) (v4 : Int32) (v5 : Int32), ((-2147483648) ≤ v0.toInt ∧ v0.toInt ≤ 2147483647) ∧ ((-2147483648) ≤ v1.toInt ∧ v1.toInt ≤ 2147483647) ∧ ((-2147483648) ≤ v2.toInt ∧ v2.toInt ≤ 2147483647) ∧ ((-2147483648) ≤ v3.toInt ∧ v3.toInt ≤ 2147483647) ∧ ((-2147483648) ≤ v4.toInt ∧ v4.toInt ≤ 2147483647) ∧ ((-2147483648) ≤ v5.toInt ∧ v5.toInt ≤ 2147483647) ∧ h[101]? = some (.inr (10, [.int v0, .int v1, .int v2, .int v3, .int v4, .int v5])) := by
  obtain ⟨fs, A, a0⟩ := xk_obj T xD_101
  obtain ⟨w0, r0, rfl, t0, a1⟩ := xt_cons a0
  obtain ⟨v0, rfl, b0⟩ := t0
  obtain ⟨w1, r1, rfl, t1, a2⟩ := xt_cons a1
  obtain ⟨v1, rfl, b1⟩ := t1
  obtain ⟨w2, r2, rfl, t2, a3⟩ := xt_cons a2
  obtain ⟨v2, rfl, b2⟩ := t2
  obtain ⟨w3, r3, rfl, t3, a4⟩ := xt_cons a3
  obtain ⟨v3, rfl, b3⟩ := t3
  obtain ⟨w4, r4, rfl, t4, a5⟩ := xt_cons a4
  obtain ⟨v4, rfl, b4⟩ := t4
  obtain ⟨w5, r5, rfl, t5, a6⟩ := xt_cons a5
  obtain ⟨v5, rfl, b5⟩ := t5
  obtain rfl := xt_nil a6
  exact ⟨v0, v1, v2, v3, v4, v5, b0, b1, b2, b3, b4, b5, A⟩
theorem xp_101 {h : xe_H} (T : xt h) {P : Prop} (kk : ∀ (v0 : Int32) (v1 : Int32) (v2 : Int32) (v3 : Int32) (v4 : Int32) (v5 : Int32), ((-2147483648) ≤ v0.toInt ∧ v0.toInt ≤ 2147483647) → ((-2147483648) ≤ v1.toInt ∧ v1.toInt ≤ 2147483647) → ((-2147483648) ≤ v2.toInt ∧ v2.toInt ≤ 2147483647) → ((-2147483648) ≤ v3.toInt ∧ v3.toInt ≤ 2147483647) → ((-2147483648) ≤ v4.toInt ∧ v4.toInt ≤ 2147483647) → ((-2147483648) ≤ v5.toInt ∧ v5.toInt ≤ 2147483647) → h[101]? = some (.inr (10, [.int v0, .int v1, .int v2, .int v3, .int v4, .int v5])) → P) : P := by
  obtain ⟨v0, v1, v2, v3, v4, v5, b0, b1, b2, b3, b4, b5, A⟩ := xq_101 T
  exact kk v0 v1 v2 v3 v4 v5 b0 b1 b2 b3 b4 b5 A
theorem xq_102 {h : xe_H} (T : xt h) : ∃ (v0 : Int32) (v1 : Int32) (v2 : Int32) (v3 : Int32) (v4 : Int32) (v5 : Int32), ((-2147483648) ≤ v0.toInt ∧ v0.toInt ≤ 2147483647) ∧ ((-2147483648) ≤ v1.toInt ∧ v1.toInt ≤ 2147483647) ∧ ((-2147483648) ≤ v2.toInt ∧ v2.toInt ≤ 2147483647) ∧ ((-2147483648) ≤ v3.toInt ∧ v3.toInt ≤ 2147483647) ∧ ((-2147483648) ≤ v4.toInt ∧ v4.toInt ≤ 2147483647) ∧ ((-2147483648) ≤ v5.toInt ∧ v5.toInt ≤ 2147483647) ∧ h[102]? = some (.inr (10, [.int v0, .int v1, .int v2, .int v3, .int v4, .int v5])) := by
  obtain ⟨fs, A, a0⟩ := xk_obj T xD_102
  obtain ⟨w0, r0, rfl, t0, a1⟩ := xt_cons a0
  obtain ⟨v0, rfl, b0⟩ := t0
  obtain ⟨w1, r1, rfl, t1, a2⟩ := xt_cons a1
  obtain ⟨v1, rfl, b1⟩ := t1
  obtain ⟨w2, r2, rfl, t2, a3⟩ := xt_cons a2
  obtain ⟨v2, rfl, b2⟩ := t2
  obtain ⟨w3, r3, rfl, t3, a4⟩ := xt_cons a3
  obtain ⟨v3, rfl, b3⟩ := t3
  obtain ⟨w4, r4, rfl, t4, a5⟩ := xt_cons a4
  obtain ⟨v4, rfl, b4⟩ := t4
  obtain ⟨w5, r5, rfl, t5, a6⟩ := xt_cons a5
  obtain ⟨v5, rfl, b5⟩ := t5
  obtain rfl := xt_nil a6
  exact ⟨v0, v1, v2, v3, v4, v5, b0, b1, b2, b3, b4, b5, A⟩
theorem xp_102 {h : xe_H} (T : xt h) {P : Prop} (kk : ∀ (v0 : Int32) (v1 : Int32) (v2 : Int32) (v3 : Int32) (v4 : Int32) (v5 : Int32), ((-2147483648) ≤ v0.toInt ∧ v0.toInt ≤ 2147483647) → ((-2147483648) ≤ v1.toInt ∧ v1.toInt ≤ 2147483647) → ((-2147483648) ≤ v2.toInt ∧ v2.toInt ≤ 2147483647) → ((-2147483648) ≤ v3.toInt ∧ v3.toInt ≤ 2147483647) → ((-2147483648) ≤ v4.toInt ∧ v4.toInt ≤ 2147483647) → ((-2147483648) ≤ v5.toInt ∧ v5.toInt ≤ 2147483647) → h[102]? = some (.inr (10, [.int v0, .int v1, .int v2, .int v3, .int v4, .int v5])) → P) : P := by
  obtain ⟨v0, v1, v2, v3, v4, v5, b0, b1, b2, b3, b4, b5, A⟩ := xq_102 T
  exact kk v0 v1 v2 v3 v4 v5 b0 b1 b2 b3 b4 b5 A
theorem xq_103 {h : xe_H} (T : xt h) : ∃ (v0 : Int32) (v1 : Int32) (v2 : Int32) (v3 : Int32) (v4 : Int32) (v5 : Int32), ((-2147483648) ≤ v0.toInt ∧ v0.toInt ≤ 2147483647) ∧ ((-2147483648) ≤ v1.toInt ∧ v1.toInt ≤ 2147483647) ∧ ((-2147483648) ≤ v2.toInt ∧ v2.toInt ≤ 2147483647) ∧ ((-2147483648) ≤ v3.toInt ∧ v3.toInt ≤ 2147483647) ∧ ((-2147483648) ≤ v4.toInt ∧ v4.toInt ≤ 2147483647) ∧ ((-2147483648) ≤ v5.toInt ∧ v5.toInt ≤ 2147483647) ∧ h[103]? = some (.inr (10, [.int v0, .int v1, .int v2, .int v3, .int v4, .int v5])) := by
  obtain ⟨fs, A, a0⟩ := xk_obj T xD_103
  obtain ⟨w0, r0, rfl, t0, a1⟩ := xt_cons a0
  obtain ⟨v0, rfl, b0⟩ := t0
  obtain ⟨w1, r1, rfl, t1, a2⟩ := xt_cons a1
  obtain ⟨v1, rfl, b1⟩ := t1
  obtain ⟨w2, r2, rfl, t2, a3⟩ := xt_cons a2
  obtain ⟨v2, rfl, b2⟩ := t2
  obtain ⟨w3, r3, rfl, t3, a4⟩ := xt_cons a3
  obtain ⟨v3, rfl, b3⟩ := t3
  obtain ⟨w4, r4, rfl, t4, a5⟩ := xt_cons a4
  obtain ⟨v4, rfl, b4⟩ := t4
  obtain ⟨w5, r5, rfl, t5, a6⟩ := xt_cons a5
  obtain ⟨v5, rfl, b5⟩ := t5
  obtain rfl := xt_nil a6
  exact ⟨v0, v1, v2, v3, v4, v5, b0, b1, b2, b3, b4, b5, A⟩
theorem xp_103 {h : xe_H} (T : xt h) {P : Prop} (kk : ∀ (v0 : Int32) (v1 : Int32) (v2 : Int32) (v3 : Int32) (v4 : Int32) (v5 : Int32), ((-2147483648) ≤ v0.toInt ∧ v0.toInt ≤ 2147483647) → ((-2147483648) ≤ v1.toInt ∧ v1.toInt ≤ 2147483647) → ((-2147483648) ≤ v2.toInt ∧ v2.toInt ≤ 2147483647) → ((-2147483648) ≤ v3.toInt ∧ v3.toInt ≤ 2147483647) → ((-2147483648) ≤ v4.toInt ∧ v4.toInt ≤ 2147483647) → ((-2147483648) ≤ v5.toInt ∧ v5.toInt ≤ 2147483647) → h[103]? = some (.inr (10, [.int v0, .int v1, .int v2, .int v3, .int v4, .int v5])) → P) : P := by
  obtain ⟨v0, v1, v2, v3, v4, v5, b0, b1, b2, b3, b4, b5, A⟩ := xq_103 T
  exact kk v0 v1 v2 v3 v4 v5 b0 b1 b2 b3 b4 b5 A
theorem xq_104 {h : xe_H} (T : xt h) : ∃ (v0 : Int32) (v1 : Int32) (v2 : Int32) (v3 : Int32) (v4 : Int32) (v5 : Int32), ((-2147483648) ≤ v0.toInt ∧ v0.toInt ≤ 2147483647) ∧ ((-2147483648) ≤ v1.toInt ∧ v1.toInt ≤ 2147483647) ∧ ((-2147483648) ≤ v2.toInt ∧ v2.toInt ≤ 2147483647) ∧ ((-2147483648) ≤ v3.toInt ∧ v3.toInt ≤ 2147483647) ∧ ((-2147483648) ≤ v4.toInt ∧ v4.toInt ≤ 2147483647) ∧ ((-2147483648) ≤ v5.toInt ∧ v5.toInt ≤ 2147483647) ∧ h[104]? = some (.inr (10, [.int v0, .int v1, .int v2, .int v3, .int v4, .int v5])) := by
  obtain ⟨fs, A, a0⟩ := xk_obj T xD_104
  obtain ⟨w0, r0, rfl, t0, a1⟩ := xt_cons a0
  obtain ⟨v0, rfl, b0⟩ := t0
  obtain ⟨w1, r1, rfl, t1, a2⟩ := xt_cons a1
  obtain ⟨v1, rfl, b1⟩ := t1
  obtain ⟨w2, r2, rfl, t2, a3⟩ := xt_cons a2
  obtain ⟨v2, rfl, b2⟩ := t2
  obtain ⟨w3, r3, rfl, t3, a4⟩ := xt_cons a3
  obtain ⟨v3, rfl, b3⟩ := t3
  obtain ⟨w4, r4, rfl, t4, a5⟩ := xt_cons a4
  obtain ⟨v4, rfl, b4⟩ := t4
  obtain ⟨w5, r5, rfl, t5, a6⟩ := xt_cons a5
  obtain ⟨v5, rfl, b5⟩ := t5
  obtain rfl := xt_nil a6
  exact ⟨v0, v1, v2, v3, v4, v5, b0, b1, b2, b3, b4, b5, A⟩
theorem xp_104 {h : xe_H} (T : xt h) {P : Prop} (kk : ∀ (v0 : Int32) (v1 : Int32) (v2 : Int32) (v3 : Int32) (v4 : Int32) (v5 : Int32), ((-2147483648) ≤ v0.toInt ∧ v0.toInt ≤ 2147483647) → ((-2147483648) ≤ v1.toInt ∧ v1.toInt ≤ 2147483647) → ((-2147483648) ≤ v2.toInt ∧ v2.toInt ≤ 2147483647) → ((-2147483648) ≤ v3.toInt ∧ v3.toInt ≤ 2147483647) → ((-2147483648) ≤ v4.toInt ∧ v4.toInt ≤ 2147483647) → ((-2147483648) ≤ v5.toInt ∧ v5.toInt ≤ 2147483647) → h[104]? = some (.inr (10, [.int v0, .int v1, .int v2, .int v3, .int v4, .int v5])) → P) : P := by
  obtain ⟨v0, v1, v2, v3, v4, v5, b0, b1, b2, b3, b4, b5, A⟩ := xq_104 T
  exact kk v0 v1 v2 v3 v4 v5 b0 b1 b2 b3 b4 b5 A
theorem xq_105 {h : xe_H} (T : xt h) : ∃ (v0 : Int32) (v1 : Int32) (v2 : Int32) (v3 : Int32) (v4 : Int32) (v5 : Int32), ((-2147483648) ≤ v0.toInt ∧ v0.toInt ≤ 2147483647) ∧ ((-2147483648) ≤ v1.toInt ∧ v1.toInt ≤ 2147483647) ∧ ((-2147483648) ≤ v2.toInt ∧ v2.toInt ≤ 2147483647) ∧ ((-2147483648) ≤ v3.toInt ∧ v3.toInt ≤ 2147483647) ∧ ((-2147483648) ≤ v4.toInt ∧ v4.toInt ≤ 2147483647) ∧ ((-2147483648) ≤ v5.toInt ∧ v5.toInt ≤ 2147483647) ∧ h[105]? = some (.inr (10, [.int v0, .int v1, .int v2, .int v3, .int v4, .int v5])) := by
  obtain ⟨fs, A, a0⟩ := xk_obj T xD_105
  obtain ⟨w0, r0, rfl, t0, a1⟩ := xt_cons a0
  obtain ⟨v0, rfl, b0⟩ := t0
  obtain ⟨w1, r1, rfl, t1, a2⟩ := xt_cons a1
  obtain ⟨v1, rfl, b1⟩ := t1
  obtain ⟨w2, r2, rfl, t2, a3⟩ := xt_cons a2
  obtain ⟨v2, rfl, b2⟩ := t2
  obtain ⟨w3, r3, rfl, t3, a4⟩ := xt_cons a3
  obtain ⟨v3, rfl, b3⟩ := t3
  obtain ⟨w4, r4, rfl, t4, a5⟩ := xt_cons a4
  obtain ⟨v4, rfl, b4⟩ := t4
  obtain ⟨w5, r5, rfl, t5, a6⟩ := xt_cons a5
  obtain ⟨v5, rfl, b5⟩ := t5
  obtain rfl := xt_nil a6
  exact ⟨v0, v1, v2, v3, v4, v5, b0, b1, b2, b3, b4, b5, A⟩
theorem xp_105 {h : xe_H} (T : xt h) {P : Prop} (kk : ∀ (v0 : Int32) (v1 : Int32) (v2 : Int32) (v3 : Int32) (v4 : Int32) (v5 : Int32), ((-2147483648) ≤ v0.toInt ∧ v0.toInt ≤ 2147483647) → ((-2147483648) ≤ v1.toInt ∧ v1.toInt ≤ 2147483647) → ((-2147483648) ≤ v2.toInt ∧ v2.toInt ≤ 2147483647) → ((-2147483648) ≤ v3.toInt ∧ v3.toInt ≤ 2147483647) → ((-2147483648) ≤ v4.toInt ∧ v4.toInt ≤ 2147483647) → ((-2147483648) ≤ v5.toInt ∧ v5.toInt ≤ 2147483647) → h[105]? = some (.inr (10, [.int v0, .int v1, .int v2, .int v3, .int v4, .int v5])) → P) : P := by
  obtain ⟨v0, v1, v2, v3, v4, v5, b0, b1, b2, b3, b4, b5, A⟩ := xq_105 T
  exact kk v0 v1 v2 v3 v4 v5 b0 b1 b2 b3 b4 b5 A
theorem xq_106 {h : xe_H} (T : xt h) : ∃ (v0 : Int32) (v1 : Int32) (v2 : Int32) (v3 : Int32) (v4 : Int32) (v5 : Int32), ((-2147483648) ≤ v0.toInt ∧ v0.toInt ≤ 2147483647) ∧ ((-2147483648) ≤ v1.toInt ∧ v1.toInt ≤ 2147483647) ∧ ((-2147483648) ≤ v2.toInt ∧ v2.toInt ≤ 2147483647) ∧ ((-2147483648) ≤ v3.toInt ∧ v3.toInt ≤ 2147483647) ∧ ((-2147483648) ≤ v4.toInt ∧ v4.toInt ≤ 2147483647) ∧ ((-2147483648) ≤ v5.toInt ∧ v5.toInt ≤ 2147483647) ∧ h[106]? = some (.inr (10, [.int v0, .int v1, .int v2, .int v3, .int v4, .int v5])) := by
  obtain ⟨fs, A, a0⟩ := xk_obj T xD_106
  obtain ⟨w0, r0, rfl, t0, a1⟩ := xt_cons a0
  obtain ⟨v0, rfl, b0⟩ := t0
  obtain ⟨w1, r1, rfl, t1, a2⟩ := xt_cons a1
  obtain ⟨v1, rfl, b1⟩ := t1
  obtain ⟨w2, r2, rfl, t2, a3⟩ := xt_cons a2
  obtain ⟨v2, rfl, b2⟩ := t2
  obtain ⟨w3, r3, rfl, t3, a4⟩ := xt_cons a3
  obtain ⟨v3, rfl, b3⟩ := t3
  obtain ⟨w4, r4, rfl, t4, a5⟩ := xt_cons a4
  obtain ⟨v4, rfl, b4⟩ := t4
  obtain ⟨w5, r5, rfl, t5, a6⟩ := xt_cons a5
  obtain ⟨v5, rfl, b5⟩ := t5
  obtain rfl := xt_nil a6
  exact ⟨v0, v1, v2, v3, v4, v5, b0, b1, b2, b3, b4, b5, A⟩
theorem xp_106 {h : xe_H} (T : xt h) {P : Prop} (kk : ∀ (v0 : Int32) (v1 : Int32) (v2 : Int32) (v3 : Int32) (v4 : Int32) (v5 : Int32), ((-2147483648) ≤ v0.toInt ∧ v0.toInt ≤ 2147483647) → ((-2147483648) ≤ v1.toInt ∧ v1.toInt ≤ 2147483647) → ((-2147483648) ≤ v2.toInt ∧ v2.toInt ≤ 2147483647) → ((-2147483648) ≤ v3.toInt ∧ v3.toInt ≤ 2147483647) → ((-2147483648) ≤ v4.toInt ∧ v4.toInt ≤ 2147483647) → ((-2147483648) ≤ v5.toInt ∧ v5.toInt ≤ 2147483647) → h[106]? = some (.inr (10, [.int v0, .int v1, .int v2, .int v3, .int v4, .int v5])) → P) : P := by
  obtain ⟨v0, v1, v2, v3, v4, v5, b0, b1, b2, b3, b4, b5, A⟩ := xq_106 T
  exact kk v0 v1 v2 v3 v4 v5 b0 b1 b2 b3 b4 b5 A
theorem xq_107 {h : xe_H} (T : xt h) : ∃ (v0 : Int32) (v1 : Int32) (v2 : Int32) (v3 : Int32) (v4 : Int32) (v5 : Int32), ((-2147483648) ≤ v0.toInt ∧ v0.toInt ≤ 2147483647) ∧ ((-2147483648) ≤ v1.toInt ∧ v1.toInt ≤ 2147483647) ∧ ((-2147483648) ≤ v2.toInt ∧ v2.toInt ≤ 2147483647) ∧ ((-2147483648) ≤ v3.toInt ∧ v3.toInt ≤ 2147483647) ∧ ((-2147483648) ≤ v4.toInt ∧ v4.toInt ≤ 2147483647) ∧ ((-2147483648) ≤ v5.toInt ∧ v5.toInt ≤ 2147483647) ∧ h[107]? = some (.inr (10, [.int v0, .int v1, .int v2, .int v3, .int v4, .int v5])) := by
  obtain ⟨fs, A, a0⟩ := xk_obj T xD_107
  obtain ⟨w0, r0, rfl, t0, a1⟩ := xt_cons a0
  obtain ⟨v0, rfl, b0⟩ := t0
  obtain ⟨w1, r1, rfl, t1, a2⟩ := xt_cons a1
  obtain ⟨v1, rfl, b1⟩ := t1
  obtain ⟨w2, r2, rfl, t2, a3⟩ := xt_cons a2
  obtain ⟨v2, rfl, b2⟩ := t2
  obtain ⟨w3, r3, rfl, t3, a4⟩ := xt_cons a3
  obtain ⟨v3, rfl, b3⟩ := t3
  obtain ⟨w4, r4, rfl, t4, a5⟩ := xt_cons a4
  obtain ⟨v4, rfl, b4⟩ := t4
  obtain ⟨w5, r5, rfl, t5, a6⟩ := xt_cons a5
  obtain ⟨v5, rfl, b5⟩ := t5
  obtain rfl := xt_nil a6
  exact ⟨v0, v1, v2, v3, v4, v5, b0, b1, b2, b3, b4, b5, A⟩
theorem xp_107 {h : xe_H} (T : xt h) {P : Prop} (kk : ∀ (v0 : Int32) (v1 : Int32) (v2 : Int32) (v3 : Int32) (v4 : Int32) (v5 : Int32), ((-2147483648) ≤ v0.toInt ∧ v0.toInt ≤ 2147483647) → ((-2147483648) ≤ v1.toInt ∧ v1.toInt ≤ 2147483647) → ((-2147483648) ≤ v2.toInt ∧ v2.toInt ≤ 2147483647) → ((-2147483648) ≤ v3.toInt ∧ v3.toInt ≤ 2147483647) → ((-2147483648) ≤ v4.toInt ∧ v4.toInt ≤ 2147483647) → ((-2147483648) ≤ v5.toInt ∧ v5.toInt ≤ 2147483647) → h[107]? = some (.inr (10, [.int v0, .int v1, .int v2, .int v3, .int v4, .int v5])) → P) : P := by
  obtain ⟨v0, v1, v2, v3, v4, v5, b0, b1, b2, b3, b4, b5, A⟩ := xq_107 T
  exact kk v0 v1 v2 v3 v4 v5 b0 b1 b2 b3 b4 b5 A
theorem xq_108 {h : xe_H} (T : xt h) : ∃ (v0 : Int32) (v1 : Int32) (v2 : Int32) (v3 : Int32) (v4 : Int32) (v5 : Int32), ((-2147483648) ≤ v0.toInt ∧ v0.toInt ≤ 2147483647) ∧ ((-2147483648) ≤ v1.toInt ∧ v1.toInt ≤ 2147483647) ∧ ((-2147483648) ≤ v2.toInt ∧ v2.toInt ≤ 2147483647) ∧ ((-2147483648) ≤ v3.toInt ∧ v3.toInt ≤ 2147483647) ∧ ((-2147483648) ≤ v4.toInt ∧ v4.toInt ≤ 2147483647) ∧ ((-2147483648) ≤ v5.toInt ∧ v5.toInt ≤ 2147483647) ∧ h[108]? = some (.inr (10, [.int v0, .int v1, .int v2, .int v3, .int v4, .int v5])) := by
  obtain ⟨fs, A, a0⟩ := xk_obj T xD_108
  obtain ⟨w0, r0, rfl, t0, a1⟩ := xt_cons a0
  obtain ⟨v0, rfl, b0⟩ := t0
  obtain ⟨w1, r1, rfl, t1, a2⟩ := xt_cons a1
  obtain ⟨v1, rfl, b1⟩ := t1
  obtain ⟨w2, r2, rfl, t2, a3⟩ := xt_cons a2
  obtain ⟨v2, rfl, b2⟩ := t2
  obtain ⟨w3, r3, rfl, t3, a4⟩ := xt_cons a3
  obtain ⟨v3, rfl, b3⟩ := t3
  obtain ⟨w4, r4, rfl, t4, a5⟩ := xt_cons a4
  obtain ⟨v4, rfl, b4⟩ := t4
  obtain ⟨w5, r5, rfl, t5, a6⟩ := xt_cons a5
  obtain ⟨v5, rfl, b5⟩ := t5
  obtain rfl := xt_nil a6
  exact ⟨v0, v1, v2, v3, v4, v5, b0, b1, b2, b3, b4, b5, A⟩
theorem xp_108 {h : xe_H} (T : xt h) {P : Prop} (kk : ∀ (v0 : Int32) (v1 : Int32) (v2 : Int32) (v3 : Int32) (v4 : Int32) (v5 : Int32), ((-2147483648) ≤ v0.toInt ∧ v0.toInt ≤ 2147483647) → ((-2147483648) ≤ v1.toInt ∧ v1.toInt ≤ 2147483647) → ((-2147483648) ≤ v2.toInt ∧ v2.toInt ≤ 2147483647) → ((-2147483648) ≤ v3.toInt ∧ v3.toInt ≤ 2147483647) → ((-2147483648) ≤ v4.toInt ∧ v4.toInt ≤ 2147483647) → ((-2147483648) ≤ v5.toInt ∧ v5.toInt ≤ 2147483647) → h[108]? = some (.inr (10, [.int v0, .int v1, .int v2, .int v3, .int v4, .int v5])) → P) : P := by
  obtain ⟨v0, v1, v2, v3, v4, v5, b0, b1, b2, b3, b4, b5, A⟩ := xq_108 T
  exact kk v0 v1 v2 v3 v4 v5 b0 b1 b2 b3 b4 b5 A
theorem xq_109 {h : xe_H} (T : xt h) : ∃ (v0 : Int32) (v1 : Int32) (v2 : Int32) (v3 : Int32) (v4 : Int32) (v5 : Int32), ((-2147483648) ≤ v0.toInt ∧ v0.toInt ≤ 2147483647) ∧ ((-2147483648) ≤ v1.toInt ∧ v1.toInt ≤ 2147483647) ∧ ((-2147483648) ≤ v2.toInt ∧ v2.toInt ≤ 2147483647) ∧ ((-2147483648) ≤ v3.toInt ∧ v3.toInt ≤ 2147483647) ∧ ((-2147483648) ≤ v4.toInt ∧ v4.toInt ≤ 2147483647) ∧ ((-2147483648) ≤ v5.toInt ∧ v5.toInt ≤ 2147483647) ∧ h[109]? = some (.inr (10, [.int v0, .int v1, .int v2, .int v3, .int v4, .int v5])) := by
  obtain ⟨fs, A, a0⟩ := xk_obj T xD_109
  obtain ⟨w0, r0, rfl, t0, a1⟩ := xt_cons a0
  obtain ⟨v0, rfl, b0⟩ := t0
  obtain ⟨w1, r1, rfl, t1, a2⟩ := xt_cons a1
  obtain ⟨v1, rfl, b1⟩ := t1
  obtain ⟨w2, r2, rfl, t2, a3⟩ := xt_cons a2
  obtain ⟨v2, rfl, b2⟩ := t2
  obtain ⟨w3, r3, rfl, t3, a4⟩ := xt_cons a3
  obtain ⟨v3, rfl, b3⟩ := t3
  obtain ⟨w4, r4, rfl, t4, a5⟩ := xt_cons a4
  obtain ⟨v4, rfl, b4⟩ := t4
  obtain ⟨w5, r5, rfl, t5, a6⟩ := xt_cons a5
  obtain ⟨v5, rfl, b5⟩ := t5
  obtain rfl := xt_nil a6
  exact ⟨v0, v1, v2, v3, v4, v5, b0, b1, b2, b3, b4, b5, A⟩
theorem xp_109 {h : xe_H} (T : xt h) {P : Prop} (kk : ∀ (v0 : Int32) (v1 : Int32) (v2 : Int32) (v3 : Int32) (v4 : Int32) (v5 : Int32), ((-2147483648) ≤ v0.toInt ∧ v0.toInt ≤ 2147483647) → ((-2147483648) ≤ v1.toInt ∧ v1.toInt ≤ 2147483647) → ((-2147483648) ≤ v2.toInt ∧ v2.toInt ≤ 2147483647) → ((-2147483648) ≤ v3.toInt ∧ v3.toInt ≤ 2147483647) → ((-2147483648) ≤ v4.toInt ∧ v4.toInt ≤ 2147483647) → ((-2147483648) ≤ v5.toInt ∧ v5.toInt ≤ 2147483647) → h[109]? = some (.inr (10, [.int v0, .int v1, .int v2, .int v3, .int v4, .int v5])) → P) : P := by
  obtain ⟨v0, v1, v2, v3, v4, v5, b0, b1, b2, b3, b4, b5, A⟩ := xq_109 T
  exact kk v0 v1 v2 v3 v4 v5 b0 b1 b2 b3 b4 b5 A
theorem xq_110 {h : xe_H} (T : xt h) : ∃ (v0 : Int32) (v1 : Int32) (v2 : Int32) (v3 : Int32) (v4 : Int32) (v5 : Int32), ((-2147483648) ≤ v0.toInt ∧ v0.toInt ≤ 2147483647) ∧ ((-2147483648) ≤ v1.toInt ∧ v1.toInt ≤ 2147483647) ∧ ((-2147483648) ≤ v2.toInt ∧ v2.toInt ≤ 2147483647) ∧ ((-2147483648) ≤ v3.toInt ∧ v3.toInt ≤ 2147483647) ∧ ((-2147483648) ≤ v4.toInt ∧ v4.toInt ≤ 2147483647) ∧ ((-2147483648) ≤ v5.toInt ∧ v5.toInt ≤ 2147483647) ∧ h[110]? = some (.inr (10, [.int v0, .int v1, .int v2, .int v3, .int v4, .int v5])) := by
  obtain ⟨fs, A, a0⟩ := xk_obj T xD_110
  obtain ⟨w0, r0, rfl, t0, a1⟩ := xt_cons a0
  obtain ⟨v0, rfl, b0⟩ := t0
  obtain ⟨w1, r1, rfl, t1, a2⟩ := xt_cons a1
  obtain ⟨v1, rfl, b1⟩ := t1
  obtain ⟨w2, r2, rfl, t2, a3⟩ := xt_cons a2
  obtain ⟨v2, rfl, b2⟩ := t2
  obtain ⟨w3, r3, rfl, t3, a4⟩ := xt_cons a3
  obtain ⟨v3, rfl, b3⟩ := t3
  obtain ⟨w4, r4, rfl, t4, a5⟩ := xt_cons a4
  obtain ⟨v4, rfl, b4⟩ := t4
  obtain ⟨w5, r5, rfl, t5, a6⟩ := xt_cons a5
  obtain ⟨v5, rfl, b5⟩ := t5
  obtain rfl := xt_nil a6
  exact ⟨v0, v1, v2, v3, v4, v5, b0, b1, b2, b3, b4, b5, A⟩
theorem xp_110 {h : xe_H} (T : xt h) {P : Prop} (kk : ∀ (v0 : Int32) (v1 : Int32) (v2 : Int32) (v3 : Int32) (v4 : Int32) (v5 : Int32), ((-2147483648) ≤ v0.toInt ∧ v0.toInt ≤ 2147483647) → ((-2147483648) ≤ v1.toInt ∧ v1.toInt ≤ 2147483647) → ((-2147483648) ≤ v2.toInt ∧ v2.toInt ≤ 2147483647) → ((-2147483648) ≤ v3.toInt ∧ v3.toInt ≤ 2147483647) → ((-2147483648) ≤ v4.toInt ∧ v4.toInt ≤ 2147483647) → ((-2147483648) ≤ v5.toInt ∧ v5.toInt ≤ 2147483647) → h[110]? = some (.inr (10, [.int v0, .int v1, .int v2, .int v3, .int v4, .int v5])) → P) : P := by
  obtain ⟨v0, v1, v2, v3, v4, v5, b0, b1, b2, b3, b4, b5, A⟩ := xq_110 T
  exact kk v0 v1 v2 v3 v4 v5 b0 b1 b2 b3 b4 b5 A
theorem xq_111 {h : xe_H} (T : xt h) : ∃ (v0 : Int32) (v1 : Int32) (v2 : Int32) (v3 : Int32) (v4 : Int32) (v5 : Int32), ((-2147483648) ≤ v0.toInt ∧ v0.toInt ≤ 2147483647) ∧ ((-2147483648) ≤ v1.toInt ∧ v1.toInt ≤ 2147483647) ∧ ((-2147483648) ≤ v2.toInt ∧ v2.toInt ≤ 2147483647) ∧ ((-2147483648) ≤ v3.toInt ∧ v3.toInt ≤ 2147483647) ∧ ((-2147483648) ≤ v4.toInt ∧ v4.toInt ≤ 2147483647) ∧ ((-2147483648) ≤ v5.toInt ∧ v5.toInt ≤ 2147483647) ∧ h[111]? = some (.inr (10, [.int v0, .int v1, .int v2, .int v3, .int v4, .int v5])) := by
  obtain ⟨fs, A, a0⟩ := xk_obj T xD_111
  obtain ⟨w0, r0, rfl, t0, a1⟩ := xt_cons a0
  obtain ⟨v0, rfl, b0⟩ := t0
  obtain ⟨w1, r1, rfl, t1, a2⟩ := xt_cons a1
  obtain ⟨v1, rfl, b1⟩ := t1
  obtain ⟨w2, r2, rfl, t2, a3⟩ := xt_cons a2
  obtain ⟨v2, rfl, b2⟩ := t2
  obtain ⟨w3, r3, rfl, t3, a4⟩ := xt_cons a3
  obtain ⟨v3, rfl, b3⟩ := t3
  obtain ⟨w4, r4, rfl, t4, a5⟩ := xt_cons a4
  obtain ⟨v4, rfl, b4⟩ := t4
  obtain ⟨w5, r5, rfl, t5, a6⟩ := xt_cons a5
  obtain ⟨v5, rfl, b5⟩ := t5
  obtain rfl := xt_nil a6
  exact ⟨v0, v1, v2, v3, v4, v5, b0, b1, b2, b3, b4, b5, A⟩
theorem xp_111 {h : xe_H} (T : xt h) {P : Prop} (kk : ∀ (v0 : Int32) (v1 : Int32) (v2 : Int32) (v3 : Int32) (v4 : Int32) (v5 : Int32), ((-2147483648) ≤ v0.toInt ∧ v0.toInt ≤ 2147483647) → ((-2147483648) ≤ v1.toInt ∧ v1.toInt ≤ 2147483647) → ((-2147483648) ≤ v2.toInt ∧ v2.toInt ≤ 2147483647) → ((-2147483648) ≤ v3.toInt ∧ v3.toInt ≤ 2147483647) → ((-2147483648) ≤ v4.toInt ∧ v4.toInt ≤ 2147483647) → ((-2147483648) ≤ v5.toInt ∧ v5.toInt ≤ 2147483647) → h[111]? = some (.inr (10, [.int v0, .int v1, .int v2, .int v3, .int v4, .int v5])) → P) : P := by
  obtain ⟨v0, v1, v2, v3, v4, v5, b0, b1, b2, b3, b4, b5, A⟩ := xq_111 T
  exact kk v0 v1 v2 v3 v4 v5 b0 b1 b2 b3 b4 b5 A
theorem xq_112 {h : xe_H} (T : xt h) : ∃ (v0 : Int32) (v1 : Int32) (v2 : Int32) (v3 : Int32) (v4 : Int32) (v5 : Int32), ((-2147483648) ≤ v0.toInt ∧ v0.toInt ≤ 2147483647) ∧ ((-2147483648) ≤ v1.toInt ∧ v1.toInt ≤ 2147483647) ∧ ((-2147483648) ≤ v2.toInt ∧ v2.toInt ≤ 2147483647) ∧ ((-2147483648) ≤ v3.toInt ∧ v3.toInt ≤ 2147483647) ∧ ((-2147483648) ≤ v4.toInt ∧ v4.toInt ≤ 2147483647) ∧ ((-2147483648) ≤ v5.toInt ∧ v5.toInt ≤ 2147483647) ∧ h[112]? = some (.inr (10, [.int v0, .int v1, .int v2, .int v3, .int v4, .int v5])) := by
  obtain ⟨fs, A, a0⟩ := xk_obj T xD_112
  obtain ⟨w0, r0, rfl, t0, a1⟩ := xt_cons a0
  obtain ⟨v0, rfl, b0⟩ := t0
  obtain ⟨w1, r1, rfl, t1, a2⟩ := xt_cons a1
  obtain ⟨v1, rfl, b1⟩ := t1
  obtain ⟨w2, r2, rfl, t2, a3⟩ := xt_cons a2
  obtain ⟨v2, rfl, b2⟩ := t2
  obtain ⟨w3, r3, rfl, t3, a4⟩ := xt_cons a3
  obtain ⟨v3, rfl, b3⟩ := t3
  obtain ⟨w4, r4, rfl, t4, a5⟩ := xt_cons a4
  obtain ⟨v4, rfl, b4⟩ := t4
  obtain ⟨w5, r5, rfl, t5, a6⟩ := xt_cons a5
  obtain ⟨v5, rfl, b5⟩ := t5
  obtain rfl := xt_nil a6
  exact ⟨v0, v1, v2, v3, v4, v5, b0, b1, b2, b3, b4, b5, A⟩
theorem xp_112 {h : xe_H} (T : xt h) {P : Prop} (kk : ∀ (v0 : Int32) (v1 : Int32) (v2 : Int32) (v3 : Int32) (v4 : Int32) (v5 : Int32), ((-2147483648) ≤ v0.toInt ∧ v0.toInt ≤ 2147483647) → ((-2147483648) ≤ v1.toInt ∧ v1.toInt ≤ 2147483647) → ((-2147483648) ≤ v2.toInt ∧ v2.toInt ≤ 2147483647) → ((-2147483648) ≤ v3.toInt ∧ v3.toInt ≤ 2147483647) → ((-2147483648) ≤ v4.toInt ∧ v4.toInt ≤ 2147483647) → ((-2147483648) ≤ v5.toInt ∧ v5.toInt ≤ 2147483647) → h[112]? = some (.inr (10, [.int v0, .int v1, .int v2, .int v3, .int v4, .int v5])) → P) : P := by
  obtain ⟨v0, v1, v2, v3, v4, v5, b0, b1, b2, b3, b4, b5, A⟩ := xq_112 T
  exact kk v0 v1 v2 v3 v4 v5 b0 b1 b2 b3 b4 b5 A
theorem xq_113 {h : xe_H} (T : xt h) : ∃ (v0 : Int32) (v1 : Int32) (v2 : Int32) (v3 : Int32) (v4 : Int32) (v5 : Int32), ((-2147483648) ≤ v0.toInt ∧ v0.toInt ≤ 2147483647) ∧ ((-2147483648) ≤ v1.toInt ∧ v1.toInt ≤ 2147483647) ∧ ((-2147483648) ≤ v2.toInt ∧ v2.toInt ≤ 2147483647) ∧ ((-2147483648) ≤ v3.toInt ∧ v3.toInt ≤ 2147483647) ∧ ((-2147483648) ≤ v4.toInt ∧ v4.toInt ≤ 2147483647) ∧ ((-2147483648) ≤ v5.toInt ∧ v5.toInt ≤ 2147483647) ∧ h[113]? = some (.inr (10, [.int v0, .int v1, .int v2, .int v3, .int v4, .int v5])) := by
  obtain ⟨fs, A, a0⟩ := xk_obj T xD_113
  obtain ⟨w0, r0, rfl, t0, a1⟩ := xt_cons a0
  obtain ⟨v0, rfl, b0⟩ := t0
  obtain ⟨w1, r1, rfl, t1, a2⟩ := xt_cons a1
  obtain ⟨v1, rfl, b1⟩ := t1
  obtain ⟨w2, r2, rfl, t2, a3⟩ := xt_cons a2
  obtain ⟨v2, rfl, b2⟩ := t2
  obtain ⟨w3, r3, rfl, t3, a4⟩ := xt_cons a3
  obtain ⟨v3, rfl, b3⟩ := t3
  obtain ⟨w4, r4, rfl, t4, a5⟩ := xt_cons a4
  obtain ⟨v4, rfl, b4⟩ := t4
  obtain ⟨w5, r5, rfl, t5, a6⟩ := xt_cons a5
  obtain ⟨v5, rfl, b5⟩ := t5
  obtain rfl := xt_nil a6
  exact ⟨v0, v1, v2, v3, v4, v5, b0, b1, b2, b3, b4, b5, A⟩
theorem xp_113 {h : xe_H} (T : xt h) {P : Prop} (kk : ∀ (v0 : Int32) (v1 : Int32) (v2 : Int32) (v3 : Int32) (v4 : Int32) (v5 : Int32), ((-2147483648) ≤ v0.toInt ∧ v0.toInt ≤ 2147483647) → ((-2147483648) ≤ v1.toInt ∧ v1.toInt ≤ 2147483647) → ((-2147483648) ≤ v2.toInt ∧ v2.toInt ≤ 2147483647) → ((-2147483648) ≤ v3.toInt ∧ v3.toInt ≤ 2147483647) → ((-2147483648) ≤ v4.toInt ∧ v4.toInt ≤ 2147483647) → ((-2147483648) ≤ v5.toInt ∧ v5.toInt ≤ 2147483647) → h[113]? = some (.inr (10, [.int v0, .int v1, .int v2, .int v3, .int v4, .int v5])) → P) : P := by
  obtain ⟨v0, v1, v2, v3, v4, v5, b0, b1, b2, b3, b4, b5, A⟩ := xq_113 T
  exact kk v0 v1 v2 v3 v4 v5 b0 b1 b2 b3 b4 b5 A
theorem xq_114 {h : xe_H} (T : xt h) : ∃ (v0 : Int32) (v1 : Int32) (v2 : Int32) (v3 : Int32) (v4 : Int32) (v5 : Int32), ((-2147483648) ≤ v0.toInt ∧ v0.toInt ≤ 2147483647) ∧ ((-2147483648) ≤ v1.toInt ∧ v1.toInt ≤ 2147483647) ∧ ((-2147483648) ≤ v2.toInt ∧ v2.toInt ≤ 2147483647) ∧ ((-2147483648) ≤ v3.toInt ∧ v3.toInt ≤ 2147483647) ∧ ((-2147483648) ≤ v4.toInt ∧ v4.toInt ≤ 2147483647) ∧ ((-2147483648) ≤ v5.toInt ∧ v5.toInt ≤ 2147483647) ∧ h[114]? = some (.inr (10, [.int v0, .int v1, .int v2, .int v3, .int v4, .int v5])) := by
  obtain ⟨fs, A, a0⟩ := xk_obj T xD_114
  obtain ⟨w0, r0, rfl, t0, a1⟩ := xt_cons a0
  obtain ⟨v0, rfl, b0⟩ := t0
  obtain ⟨w1, r1, rfl, t1, a2⟩ := xt_cons a1
  obtain ⟨v1, rfl, b1⟩ := t1
  obtain ⟨w2, r2, rfl, t2, a3⟩ := xt_cons a2
  obtain ⟨v2, rfl, b2⟩ := t2
  obtain ⟨w3, r3, rfl, t3, a4⟩ := xt_cons a3
  obtain ⟨v3, rfl, b3⟩ := t3
  obtain ⟨w4, r4, rfl, t4, a5⟩ := xt_cons a4
  obtain ⟨v4, rfl, b4⟩ := t4
  obtain ⟨w5, r5, rfl, t5, a6⟩ := xt_cons a5
  obtain ⟨v5, rfl, b5⟩ := t5
  obtain rfl := xt_nil a6
  exact ⟨v0, v1, v2, v3, v4, v5, b0, b1, b2, b3, b4, b5, A⟩
theorem xp_114 {h : xe_H} (T : xt h) {P : Prop} (kk : ∀ (v0 : Int32) (v1 : Int32) (v2 : Int32) (v3 : Int32) (v4 : Int32) (v5 : Int32), ((-2147483648) ≤ v0.toInt ∧ v0.toInt ≤ 2147483647) → ((-2147483648) ≤ v1.toInt ∧ v1.toInt ≤ 2147483647) → ((-2147483648) ≤ v2.toInt ∧ v2.toInt ≤ 2147483647) → ((-2147483648) ≤ v3.toInt ∧ v3.toInt ≤ 2147483647) → ((-2147483648) ≤ v4.toInt ∧ v4.toInt ≤ 2147483647) → ((-2147483648) ≤ v5.toInt ∧ v5.toInt ≤ 2147483647) → h[114]? = some (.inr (10, [.int v0, .int v1, .int v2, .int v3, .int v4, .int v5])) → P) : P := by
  obtain ⟨v0, v1, v2, v3, v4, v5, b0, b1, b2, b3, b4, b5, A⟩ := xq_114 T
  exact kk v0 v1 v2 v3 v4 v5 b0 b1 b2 b3 b4 b5 A
theorem xq_115 {h : xe_H} (T : xt h) : ∃ (v0 : Int32) (v1 : Int32) (v16 : Int32) (v18 : Int32) (v23 : Int32) (v32 : Int32) (v33 : Int32) (v34 : Int32) (v41 : Int32) (v45 : Int32) (v54 : Int32) (v56 : Int32) (v61 : Int32), ((-2147483648) ≤ v0.toInt ∧ v0.toInt ≤ 2147483647) ∧ (0 ≤ v1.toInt ∧ v1.toInt ≤ 600) ∧ ((-2147483648) ≤ v16.toInt ∧ v16.toInt ≤ 2147483647) ∧ (0 ≤ v18.toInt ∧ v18.toInt ≤ 60) ∧ (0 ≤ v23.toInt ∧ v23.toInt ≤ 10) ∧ ((-2147483648) ≤ v32.toInt ∧ v32.toInt ≤ 2147483647) ∧ ((-2147483648) ≤ v33.toInt ∧ v33.toInt ≤ 2147483647) ∧ (0 ≤ v34.toInt ∧ v34.toInt ≤ 20) ∧ (0 ≤ v41.toInt ∧ v41.toInt ≤ 1) ∧ (0 ≤ v45.toInt ∧ v45.toInt ≤ 8) ∧ (0 ≤ v54.toInt ∧ v54.toInt ≤ 24) ∧ (0 ≤ v56.toInt ∧ v56.toInt ≤ 12) ∧ (0 ≤ v61.toInt ∧ v61.toInt ≤ 1) ∧ h[115]? = some (.inr (12, [.int v0, .int v1, .ref 116, .ref 117, .ref 118, .ref 119, .ref 120, .ref 121, .ref 122, .ref 123, .ref 124, .ref 125, .ref 126, .ref 127, .ref 128, .ref 129, .int v16, .ref 130, .int v18, .ref 131, .ref 132, .ref 133, .ref 134, .int v23, .ref 135, .ref 136, .ref 137, .ref 138, .ref 139, .ref 140, .ref 141, .ref 142, .int v32, .int v33, .int v34, .ref 143, .ref 144, .ref 145, .ref 146, .ref 147, .ref 148, .int v41, .ref 149, .ref 150, .ref 151, .int v45, .ref 152, .ref 153, .ref 154, .ref 155, .ref 156, .ref 157, .ref 158, .ref 159, .int v54, .ref 160, .int v56, .ref 161, .ref 162, .ref 163, .ref 164, .int v61, .ref 165, .ref 166])) := by
  obtain ⟨fs, A, a0⟩ := xk_obj T xD_115
  obtain ⟨w0, r0, rfl, t0, a1⟩ := xt_cons a0
  obtain ⟨v0, rfl, b0⟩ := t0
  obtain ⟨w1, r1, rfl, t1, a2⟩ := xt_cons a1
  obtain ⟨v1, rfl, b1⟩ := t1
  obtain ⟨w2, r2, rfl, t2, a3⟩ := xt_cons a2
  obtain rfl := t2
  obtain ⟨w3, r3, rfl, t3, a4⟩ := xt_cons a3
  obtain rfl := t3
  obtain ⟨w4, r4, rfl, t4, a5⟩ := xt_cons a4
  obtain rfl := t4
  obtain ⟨w5, r5, rfl, t5, a6⟩ := xt_cons a5
  obtain rfl := t5
  obtain ⟨w6, r6, rfl, t6, a7⟩ := xt_cons a6
  obtain rfl := t6
  obtain ⟨w7, r7, rfl, t7, a8⟩ := xt_cons a7
  obtain rfl := t7
  obtain ⟨w8, r8, rfl, t8, a9⟩ := xt_cons a8
  obtain rfl := t8
  obtain ⟨w9, r9, rfl, t9, a10⟩ := xt_cons a9
  obtain rfl := t9
  obtain ⟨w10, r10, rfl, t10, a11⟩ := xt_cons a10
  obtain rfl := t10
  obtain ⟨w11, r11, rfl, t11, a12⟩ := xt_cons a11
  obtain rfl := t11
  obtain ⟨w12, r12, rfl, t12, a13⟩ := xt_cons a12
  obtain rfl := t12
  obtain ⟨w13, r13, rfl, t13, a14⟩ := xt_cons a13
  obtain rfl := t13
  obtain ⟨w14, r14, rfl, t14, a15⟩ := xt_cons a14
  obtain rfl := t14
  obtain ⟨w15, r15, rfl, t15, a16⟩ := xt_cons a15
  obtain rfl := t15
  obtain ⟨w16, r16, rfl, t16, a17⟩ := xt_cons a16
  obtain ⟨v16, rfl, b16⟩ := t16
  obtain ⟨w17, r17, rfl, t17, a18⟩ := xt_cons a17
  obtain rfl := t17
  obtain ⟨w18, r18, rfl, t18, a19⟩ := xt_cons a18
  obtain ⟨v18, rfl, b18⟩ := t18
  obtain ⟨w19, r19, rfl, t19, a20⟩ := xt_cons a19
  obtain rfl := t19
  obtain ⟨w20, r20, rfl, t20, a21⟩ := xt_cons a20
  obtain rfl := t20
  obtain ⟨w21, r21, rfl, t21, a22⟩ := xt_cons a21
  obtain rfl := t21
  obtain ⟨w22, r22, rfl, t22, a23⟩ := xt_cons a22
  obtain rfl := t22
  obtain ⟨w23, r23, rfl, t23, a24⟩ := xt_cons a23
  obtain ⟨v23, rfl, b23⟩ := t23
  obtain ⟨w24, r24, rfl, t24, a25⟩ := xt_cons a24
  obtain rfl := t24
  obtain ⟨w25, r25, rfl, t25, a26⟩ := xt_cons a25
  obtain rfl := t25
  obtain ⟨w26, r26, rfl, t26, a27⟩ := xt_cons a26
  obtain rfl := t26
  obtain ⟨w27, r27, rfl, t27, a28⟩ := xt_cons a27
  obtain rfl := t27
  obtain ⟨w28, r28, rfl, t28, a29⟩ := xt_cons a28
  obtain rfl := t28
  obtain ⟨w29, r29, rfl, t29, a30⟩ := xt_cons a29
  obtain rfl := t29
  obtain ⟨w30, r30, rfl, t30, a31⟩ := xt_cons a30
  obtain rfl := t30
  obtain ⟨w31, r31, rfl, t31, a32⟩ := xt_cons a31
  obtain rfl := t31
  obtain ⟨w32, r32, rfl, t32, a33⟩ := xt_cons a32
  obtain ⟨v32, rfl, b32⟩ := t32
  obtain ⟨w33, r33, rfl, t33, a34⟩ := xt_cons a33
  obtain ⟨v33, rfl, b33⟩ := t33
  obtain ⟨w34, r34, rfl, t34, a35⟩ := xt_cons a34
  obtain ⟨v34, rfl, b34⟩ := t34
  obtain ⟨w35, r35, rfl, t35, a36⟩ := xt_cons a35
  obtain rfl := t35
  obtain ⟨w36, r36, rfl, t36, a37⟩ := xt_cons a36
  obtain rfl := t36
  obtain ⟨w37, r37, rfl, t37, a38⟩ := xt_cons a37
  obtain rfl := t37
  obtain ⟨w38, r38, rfl, t38, a39⟩ := xt_cons a38
  obtain rfl := t38
  obtain ⟨w39, r39, rfl, t39, a40⟩ := xt_cons a39
  obtain rfl := t39
  obtain ⟨w40, r40, rfl, t40, a41⟩ := xt_cons a40
  obtain rfl := t40
  obtain ⟨w41, r41, rfl, t41, a42⟩ := xt_cons a41
  obtain ⟨v41, rfl, b41⟩ := t41
  obtain ⟨w42, r42, rfl, t42, a43⟩ := xt_cons a42
  obtain rfl := t42
  obtain ⟨w43, r43, rfl, t43, a44⟩ := xt_cons a43
  obtain rfl := t43
  obtain ⟨w44, r44, rfl, t44, a45⟩ := xt_cons a44
  obtain rfl := t44
  obtain ⟨w45, r45, rfl, t45, a46⟩ := xt_cons a45
  obtain ⟨v45, rfl, b45⟩ := t45
  obtain ⟨w46, r46, rfl, t46, a47⟩ := xt_cons a46
  obtain rfl := t46
  obtain ⟨w47, r47, rfl, t47, a48⟩ := xt_cons a47
  obtain rfl := t47
  obtain ⟨w48, r48, rfl, t48, a49⟩ := xt_cons a48
  obtain rfl := t48
  obtain ⟨w49, r49, rfl, t49, a50⟩ := xt_cons a49
  obtain rfl := t49
  obtain ⟨w50, r50, rfl, t50, a51⟩ := xt_cons a50
  obtain rfl := t50
  obtain ⟨w51, r51, rfl, t51, a52⟩ := xt_cons a51
  obtain rfl := t51
  obtain ⟨w52, r52, rfl, t52, a53⟩ := xt_cons a52
  obtain rfl := t52
  obtain ⟨w53, r53, rfl, t53, a54⟩ := xt_cons a53
  obtain rfl := t53
  obtain ⟨w54, r54, rfl, t54, a55⟩ := xt_cons a54
  obtain ⟨v54, rfl, b54⟩ := t54
  obtain ⟨w55, r55, rfl, t55, a56⟩ := xt_cons a55
  obtain rfl := t55
  obtain ⟨w56, r56, rfl, t56, a57⟩ := xt_cons a56
  obtain ⟨v56, rfl, b56⟩ := t56
  obtain ⟨w57, r57, rfl, t57, a58⟩ := xt_cons a57
  obtain rfl := t57
  obtain ⟨w58, r58, rfl, t58, a59⟩ := xt_cons a58
  obtain rfl := t58
  obtain ⟨w59, r59, rfl, t59, a60⟩ := xt_cons a59
  obtain rfl := t59
  obtain ⟨w60, r60, rfl, t60, a61⟩ := xt_cons a60
  obtain rfl := t60
  obtain ⟨w61, r61, rfl, t61, a62⟩ := xt_cons a61
  obtain ⟨v61, rfl, b61⟩ := t61
  obtain ⟨w62, r62, rfl, t62, a63⟩ := xt_cons a62
  obtain rfl := t62
  obtain ⟨w63, r63, rfl, t63, a64⟩ := xt_cons a63
  obtain rfl := t63
  obtain rfl := xt_nil a64
  exact ⟨v0, v1, v16, v18, v23, v32, v33, v34, v41, v45, v54, v56, v61, b0, b1, b16, b18, b23, b32, b33, b34, b41, b45, b54, b56, b61, A⟩
theorem xp_115 {h : xe_H} (T : xt h) {P : Prop} (kk : ∀ (v0 : Int32) (v1 : Int32) (v16 : Int32) (v18 : Int32) (v23 : Int32) (v32 : Int32) (v33 : Int32) (v34 : Int32) (v41 : Int32) (v45 : Int32) (v54 : Int32) (v56 : Int32) (v61 : Int32), ((-2147483648) ≤ v0.toInt ∧ v0.toInt ≤ 2147483647) → (0 ≤ v1.toInt ∧ v1.toInt ≤ 600) → ((-2147483648) ≤ v16.toInt ∧ v16.toInt ≤ 2147483647) → (0 ≤ v18.toInt ∧ v18.toInt ≤ 60) → (0 ≤ v23.toInt ∧ v23.toInt ≤ 10) → ((-2147483648) ≤ v32.toInt ∧ v32.toInt ≤ 2147483647) → ((-2147483648) ≤ v33.toInt ∧ v33.toInt ≤ 2147483647) → (0 ≤ v34.toInt ∧ v34.toInt ≤ 20) → (0 ≤ v41.toInt ∧ v41.toInt ≤ 1) → (0 ≤ v45.toInt ∧ v45.toInt ≤ 8) → (0 ≤ v54.toInt ∧ v54.toInt ≤ 24) → (0 ≤ v56.toInt ∧ v56.toInt ≤ 12) → (0 ≤ v61.toInt ∧ v61.toInt ≤ 1) → h[115]? = some (.inr (12, [.int v0, .int v1, .ref 116, .ref 117, .ref 118, .ref 119, .ref 120, .ref 121, .ref 122, .ref 123, .ref 124, .ref 125, .ref 126, .ref 127, .ref 128, .ref 129, .int v16, .ref 130, .int v18, .ref 131, .ref 132, .ref 133, .ref 134, .int v23, .ref 135, .ref 136, .ref 137, .ref 138, .ref 139, .ref 140, .ref 141, .ref 142, .int v32, .int v33, .int v34, .ref 143, .ref 144, .ref 145, .ref 146, .ref 147, .ref 148, .int v41, .ref 149, .ref 150, .ref 151, .int v45, .ref 152, .ref 153, .ref 154, .ref 155, .ref 156, .ref 157, .ref 158, .ref 159, .int v54, .ref 160, .int v56, .ref 161, .ref 162, .ref 163, .ref 164, .int v61, .ref 165, .ref 166])) → P) : P := by
  obtain ⟨v0, v1, v16, v18, v23, v32, v33, v34, v41, v45, v54, v56, v61, b0, b1, b16, b18, b23, b32, b33, b34, b41, b45, b54, b56, b61, A⟩ := xq_115 T
  exact kk v0 v1 v16 v18 v23 v32 v33 v34 v41 v45 v54 v56 v61 b0 b1 b16 b18 b23 b32 b33 b34 b41 b45 b54 b56 b61 A
def xG_room : List Nat := [11, 14, 17, 20, 23, 26]
def xG_room0 : List Nat := [12, 15, 18, 21, 24, 27]
def xG_room1 : List Nat := [13, 16, 19, 22, 25, 28]
def xG_wall : List Nat := [29, 31, 33, 35, 37, 39, 41, 43, 45, 47, 49, 51]
def xG_wall4 : List Nat := [30, 32, 34, 36, 38, 40, 42, 44, 46, 48, 50, 52]
def xG_cause : List Nat := [53, 54, 55, 56, 57, 58, 59, 60, 61, 62]
def xG_trial : List Nat := [95, 96, 97, 98, 99, 100, 101, 102, 103, 104, 105, 106, 107, 108, 109, 110, 111, 112, 113, 114]
theorem xG_room_or {a : Nat} (ha : List.elem a xG_room = true) : a = 11 ∨ a = 14 ∨ a = 17 ∨ a = 20 ∨ a = 23 ∨ a = 26 := by
  have h := List.mem_of_elem_eq_true ha
  simpa only [xG_room, List.mem_cons, List.not_mem_nil, or_false] using h
theorem xg_room {h : xe_H} (T : xt h) {a : Nat} (ha : List.elem a xG_room = true) : ∃ (v0 : Nat) (v1 : Nat), List.elem v0 xG_room0 = true ∧ List.elem v1 xG_room1 = true ∧ h[a]? = some (.inr (7, [.ref v0, .ref v1])) := by
  rcases xG_room_or ha with rfl | rfl | rfl | rfl | rfl | rfl
  · have A := xq_11 T
    exact ⟨12, 13, rfl, rfl, A⟩
  · have A := xq_14 T
    exact ⟨15, 16, rfl, rfl, A⟩
  · have A := xq_17 T
    exact ⟨18, 19, rfl, rfl, A⟩
  · have A := xq_20 T
    exact ⟨21, 22, rfl, rfl, A⟩
  · have A := xq_23 T
    exact ⟨24, 25, rfl, rfl, A⟩
  · have A := xq_26 T
    exact ⟨27, 28, rfl, rfl, A⟩
theorem xGo_room {a : Nat} (ha : List.elem a xG_room = true) : ∃ ds : List xt_F, xT[a]? = some (.inl (7, ds)) ∧ True := by
  rcases xG_room_or ha with rfl | rfl | rfl | rfl | rfl | rfl
  all_goals exact ⟨_, rfl, trivial⟩
theorem xG_room0_or {a : Nat} (ha : List.elem a xG_room0 = true) : a = 12 ∨ a = 15 ∨ a = 18 ∨ a = 21 ∨ a = 24 ∨ a = 27 := by
  have h := List.mem_of_elem_eq_true ha
  simpa only [xG_room0, List.mem_cons, List.not_mem_nil, or_false] using h
theorem xGD_room0 {a : Nat} (ha : List.elem a xG_room0 = true) : xT[a]? = some (.inr (.inl (0, 5, (-2147483648), 2147483647))) := by
  rcases xG_room0_or ha with rfl | rfl | rfl | rfl | rfl | rfl
  all_goals rfl
theorem xG_room1_or {a : Nat} (ha : List.elem a xG_room1 = true) : a = 13 ∨ a = 16 ∨ a = 19 ∨ a = 22 ∨ a = 25 ∨ a = 28 := by
  have h := List.mem_of_elem_eq_true ha
  simpa only [xG_room1, List.mem_cons, List.not_mem_nil, or_false] using h
theorem xGD_room1 {a : Nat} (ha : List.elem a xG_room1 = true) : xT[a]? = some (.inr (.inl (0, 24, (-2147483648), 2147483647))) := by
  rcases xG_room1_or ha with rfl | rfl | rfl | rfl | rfl | rfl
  all_goals rfl
theorem xG_wall_or {a : Nat} (ha : List.elem a xG_wall = true) : a = 29 ∨ a = 31 ∨ a = 33 ∨ a = 35 ∨ a = 37 ∨ a = 39 ∨ a = 41 ∨ a = 43 ∨ a = 45 ∨ a = 47 ∨ a = 49 ∨ a = 51 := by
  have h := List.mem_of_elem_eq_true ha
  simpa only [xG_wall, List.mem_cons, List.not_mem_nil, or_false] using h
theorem xg_wall {h : xe_H} (T : xt h) {a : Nat} (ha : List.elem a xG_wall = true) : ∃ (v0 : Int32) (v1 : Int32) (v2 : Int32) (v3 : Int32) (v4 : Nat), ((-2147483648) ≤ v0.toInt ∧ v0.toInt ≤ 2147483647) ∧ ((-2147483648) ≤ v1.toInt ∧ v1.toInt ≤ 2147483647) ∧ (0 ≤ v2.toInt ∧ v2.toInt ≤ 1) ∧ ((-2147483648) ≤ v3.toInt ∧ v3.toInt ≤ 2147483647) ∧ List.elem v4 xG_wall4 = true ∧ h[a]? = some (.inr (11, [.int v0, .int v1, .int v2, .int v3, .ref v4])) := by
  rcases xG_wall_or ha with rfl | rfl | rfl | rfl | rfl | rfl | rfl | rfl | rfl | rfl | rfl | rfl
  · obtain ⟨v0, v1, v2, v3, b0, b1, b2, b3, A⟩ := xq_29 T
    exact ⟨v0, v1, v2, v3, 30, b0, b1, b2, b3, rfl, A⟩
  · obtain ⟨v0, v1, v2, v3, b0, b1, b2, b3, A⟩ := xq_31 T
    exact ⟨v0, v1, v2, v3, 32, b0, b1, b2, b3, rfl, A⟩
  · obtain ⟨v0, v1, v2, v3, b0, b1, b2, b3, A⟩ := xq_33 T
    exact ⟨v0, v1, v2, v3, 34, b0, b1, b2, b3, rfl, A⟩
  · obtain ⟨v0, v1, v2, v3, b0, b1, b2, b3, A⟩ := xq_35 T
    exact ⟨v0, v1, v2, v3, 36, b0, b1, b2, b3, rfl, A⟩
  · obtain ⟨v0, v1, v2, v3, b0, b1, b2, b3, A⟩ := xq_37 T
    exact ⟨v0, v1, v2, v3, 38, b0, b1, b2, b3, rfl, A⟩
  · obtain ⟨v0, v1, v2, v3, b0, b1, b2, b3, A⟩ := xq_39 T
    exact ⟨v0, v1, v2, v3, 40, b0, b1, b2, b3, rfl, A⟩
  · obtain ⟨v0, v1, v2, v3, b0, b1, b2, b3, A⟩ := xq_41 T
    exact ⟨v0, v1, v2, v3, 42, b0, b1, b2, b3, rfl, A⟩
  · obtain ⟨v0, v1, v2, v3, b0, b1, b2, b3, A⟩ := xq_43 T
    exact ⟨v0, v1, v2, v3, 44, b0, b1, b2, b3, rfl, A⟩
  · obtain ⟨v0, v1, v2, v3, b0, b1, b2, b3, A⟩ := xq_45 T
    exact ⟨v0, v1, v2, v3, 46, b0, b1, b2, b3, rfl, A⟩
  · obtain ⟨v0, v1, v2, v3, b0, b1, b2, b3, A⟩ := xq_47 T
    exact ⟨v0, v1, v2, v3, 48, b0, b1, b2, b3, rfl, A⟩
  · obtain ⟨v0, v1, v2, v3, b0, b1, b2, b3, A⟩ := xq_49 T
    exact ⟨v0, v1, v2, v3, 50, b0, b1, b2, b3, rfl, A⟩
  · obtain ⟨v0, v1, v2, v3, b0, b1, b2, b3, A⟩ := xq_51 T
    exact ⟨v0, v1, v2, v3, 52, b0, b1, b2, b3, rfl, A⟩
theorem xGo_wall {a : Nat} (ha : List.elem a xG_wall = true) : ∃ ds : List xt_F, xT[a]? = some (.inl (11, ds)) ∧ ds[0]? = some (.inr (some ((-2147483648), 2147483647))) ∧ ds[1]? = some (.inr (some ((-2147483648), 2147483647))) ∧ ds[2]? = some (.inr (some (0, 1))) ∧ ds[3]? = some (.inr (some ((-2147483648), 2147483647))) := by
  rcases xG_wall_or ha with rfl | rfl | rfl | rfl | rfl | rfl | rfl | rfl | rfl | rfl | rfl | rfl
  all_goals exact ⟨_, rfl, rfl, rfl, rfl, rfl⟩
theorem xG_wall4_or {a : Nat} (ha : List.elem a xG_wall4 = true) : a = 30 ∨ a = 32 ∨ a = 34 ∨ a = 36 ∨ a = 38 ∨ a = 40 ∨ a = 42 ∨ a = 44 ∨ a = 46 ∨ a = 48 ∨ a = 50 ∨ a = 52 := by
  have h := List.mem_of_elem_eq_true ha
  simpa only [xG_wall4, List.mem_cons, List.not_mem_nil, or_false] using h
theorem xGD_wall4 {a : Nat} (ha : List.elem a xG_wall4 = true) : xT[a]? = some (.inr (.inl (0, 600, (-2147483648), 2147483647))) := by
  rcases xG_wall4_or ha with rfl | rfl | rfl | rfl | rfl | rfl | rfl | rfl | rfl | rfl | rfl | rfl
  all_goals rfl
theorem xG_cause_or {a : Nat} (ha : List.elem a xG_cause = true) : a = 53 ∨ a = 54 ∨ a = 55 ∨ a = 56 ∨ a = 57 ∨ a = 58 ∨ a = 59 ∨ a = 60 ∨ a = 61 ∨ a = 62 := by
  have h := List.mem_of_elem_eq_true ha
  simpa only [xG_cause, List.mem_cons, List.not_mem_nil, or_false] using h
theorem xg_cause {h : xe_H} (T : xt h) {a : Nat} (ha : List.elem a xG_cause = true) : ∃ (v0 : Int32) (v1 : Int32) (v2 : Int32) (v3 : Int32), ((-2147483648) ≤ v0.toInt ∧ v0.toInt ≤ 2147483647) ∧ ((-2147483648) ≤ v1.toInt ∧ v1.toInt ≤ 2147483647) ∧ ((-2147483648) ≤ v2.toInt ∧ v2.toInt ≤ 2147483647) ∧ ((-2147483648) ≤ v3.toInt ∧ v3.toInt ≤ 2147483647) ∧ h[a]? = some (.inr (1, [.int v0, .int v1, .int v2, .int v3])) := by
  rcases xG_cause_or ha with rfl | rfl | rfl | rfl | rfl | rfl | rfl | rfl | rfl | rfl
  · obtain ⟨v0, v1, v2, v3, b0, b1, b2, b3, A⟩ := xq_53 T
    exact ⟨v0, v1, v2, v3, b0, b1, b2, b3, A⟩
  · obtain ⟨v0, v1, v2, v3, b0, b1, b2, b3, A⟩ := xq_54 T
    exact ⟨v0, v1, v2, v3, b0, b1, b2, b3, A⟩
  · obtain ⟨v0, v1, v2, v3, b0, b1, b2, b3, A⟩ := xq_55 T
    exact ⟨v0, v1, v2, v3, b0, b1, b2, b3, A⟩
  · obtain ⟨v0, v1, v2, v3, b0, b1, b2, b3, A⟩ := xq_56 T
    exact ⟨v0, v1, v2, v3, b0, b1, b2, b3, A⟩
  · obtain ⟨v0, v1, v2, v3, b0, b1, b2, b3, A⟩ := xq_57 T
    exact ⟨v0, v1, v2, v3, b0, b1, b2, b3, A⟩
  · obtain ⟨v0, v1, v2, v3, b0, b1, b2, b3, A⟩ := xq_58 T
    exact ⟨v0, v1, v2, v3, b0, b1, b2, b3, A⟩
  · obtain ⟨v0, v1, v2, v3, b0, b1, b2, b3, A⟩ := xq_59 T
    exact ⟨v0, v1, v2, v3, b0, b1, b2, b3, A⟩
  · obtain ⟨v0, v1, v2, v3, b0, b1, b2, b3, A⟩ := xq_60 T
    exact ⟨v0, v1, v2, v3, b0, b1, b2, b3, A⟩
  · obtain ⟨v0, v1, v2, v3, b0, b1, b2, b3, A⟩ := xq_61 T
    exact ⟨v0, v1, v2, v3, b0, b1, b2, b3, A⟩
  · obtain ⟨v0, v1, v2, v3, b0, b1, b2, b3, A⟩ := xq_62 T
    exact ⟨v0, v1, v2, v3, b0, b1, b2, b3, A⟩
theorem xGo_cause {a : Nat} (ha : List.elem a xG_cause = true) : ∃ ds : List xt_F, xT[a]? = some (.inl (1, ds)) ∧ ds[0]? = some (.inr (some ((-2147483648), 2147483647))) ∧ ds[1]? = some (.inr (some ((-2147483648), 2147483647))) ∧ ds[2]? = some (.inr (some ((-2147483648), 2147483647))) ∧ ds[3]? = some (.inr (some ((-2147483648), 2147483647))) := by
  rcases xG_cause_or ha with rfl | rfl | rfl | rfl | rfl | rfl | rfl | rfl | rfl | rfl
  all_goals exact ⟨_, rfl, rfl, rfl, rfl, rfl⟩
theorem xG_trial_or {a : Nat} (ha : List.elem a xG_trial = true) : a = 95 ∨ a = 96 ∨ a = 97 ∨ a = 98 ∨ a = 99 ∨ a = 100 ∨ a = 101 ∨ a = 102 ∨ a = 103 ∨ a = 104 ∨ a = 105 ∨ a = 106 ∨ a = 107 ∨ a = 108 ∨ a = 109 ∨ a = 110 ∨ a = 111 ∨ a = 112 ∨ a = 113 ∨ a = 114 := by
  have h := List.mem_of_elem_eq_true ha
  simpa only [xG_trial, List.mem_cons, List.not_mem_nil, or_false] using h
theorem xg_trial {h : xe_H} (T : xt h) {a : Nat} (ha : List.elem a xG_trial = true) : ∃ (v0 : Int32) (v1 : Int32) (v2 : Int32) (v3 : Int32) (v4 : Int32) (v5 : Int32), ((-2147483648) ≤ v0.toInt ∧ v0.toInt ≤ 2147483647) ∧ ((-2147483648) ≤ v1.toInt ∧ v1.toInt ≤ 2147483647) ∧ ((-2147483648) ≤ v2.toInt ∧ v2.toInt ≤ 2147483647) ∧ ((-2147483648) ≤ v3.toInt ∧ v3.toInt ≤ 2147483647) ∧ ((-2147483648) ≤ v4.toInt ∧ v4.toInt ≤ 2147483647) ∧ ((-2147483648) ≤ v5.toInt ∧ v5.toInt ≤ 2147483647) ∧ h[a]? = some (.inr (10, [.int v0, .int v1, .int v2, .int v3, .int v4, .int v5])) := by
  rcases xG_trial_or ha with rfl | rfl | rfl | rfl | rfl | rfl | rfl | rfl | rfl | rfl | rfl | rfl | rfl | rfl | rfl | rfl | rfl | rfl | rfl | rfl
  · obtain ⟨v0, v1, v2, v3, v4, v5, b0, b1, b2, b3, b4, b5, A⟩ := xq_95 T
    exact ⟨v0, v1, v2, v3, v4, v5, b0, b1, b2, b3, b4, b5, A⟩
  · obtain ⟨v0, v1, v2, v3, v4, v5, b0, b1, b2, b3, b4, b5, A⟩ := xq_96 T
    exact ⟨v0, v1, v2, v3, v4, v5, b0, b1, b2, b3, b4, b5, A⟩
  · obtain ⟨v0, v1, v2, v3, v4, v5, b0, b1, b2, b3, b4, b5, A⟩ := xq_97 T
    exact ⟨v0, v1, v2, v3, v4, v5, b0, b1, b2, b3, b4, b5, A⟩
  · obtain ⟨v0, v1, v2, v3, v4, v5, b0, b1, b2, b3, b4, b5, A⟩ := xq_98 T
    exact ⟨v0, v1, v2, v3, v4, v5, b0, b1, b2, b3, b4, b5, A⟩
  · obtain ⟨v0, v1, v2, v3, v4, v5, b0, b1, b2, b3, b4, b5, A⟩ := xq_99 T
    exact ⟨v0, v1, v2, v3, v4, v5, b0, b1, b2, b3, b4, b5, A⟩
  · obtain ⟨v0, v1, v2, v3, v4, v5, b0, b1, b2, b3, b4, b5, A⟩ := xq_100 T
    exact ⟨v0, v1, v2, v3, v4, v5, b0, b1, b2, b3, b4, b5, A⟩
  · obtain ⟨v0, v1, v2, v3, v4, v5, b0, b1, b2, b3, b4, b5, A⟩ := xq_101 T
    exact ⟨v0, v1, v2, v3, v4, v5, b0, b1, b2, b3, b4, b5, A⟩
  · obtain ⟨v0, v1, v2, v3, v4, v5, b0, b1, b2, b3, b4, b5, A⟩ := xq_102 T
    exact ⟨v0, v1, v2, v3, v4, v5, b0, b1, b2, b3, b4, b5, A⟩
  · obtain ⟨v0, v1, v2, v3, v4, v5, b0, b1, b2, b3, b4, b5, A⟩ := xq_103 T
    exact ⟨v0, v1, v2, v3, v4, v5, b0, b1, b2, b3, b4, b5, A⟩
  · obtain ⟨v0, v1, v2, v3, v4, v5, b0, b1, b2, b3, b4, b5, A⟩ := xq_104 T
    exact ⟨v0, v1, v2, v3, v4, v5, b0, b1, b2, b3, b4, b5, A⟩
  · obtain ⟨v0, v1, v2, v3, v4, v5, b0, b1, b2, b3, b4, b5, A⟩ := xq_105 T
    exact ⟨v0, v1, v2, v3, v4, v5, b0, b1, b2, b3, b4, b5, A⟩
  · obtain ⟨v0, v1, v2, v3, v4, v5, b0, b1, b2, b3, b4, b5, A⟩ := xq_106 T
    exact ⟨v0, v1, v2, v3, v4, v5, b0, b1, b2, b3, b4, b5, A⟩
  · obtain ⟨v0, v1, v2, v3, v4, v5, b0, b1, b2, b3, b4, b5, A⟩ := xq_107 T
    exact ⟨v0, v1, v2, v3, v4, v5, b0, b1, b2, b3, b4, b5, A⟩
  · obtain ⟨v0, v1, v2, v3, v4, v5, b0, b1, b2, b3, b4, b5, A⟩ := xq_108 T
    exact ⟨v0, v1, v2, v3, v4, v5, b0, b1, b2, b3, b4, b5, A⟩
  · obtain ⟨v0, v1, v2, v3, v4, v5, b0, b1, b2, b3, b4, b5, A⟩ := xq_109 T
    exact ⟨v0, v1, v2, v3, v4, v5, b0, b1, b2, b3, b4, b5, A⟩
  · obtain ⟨v0, v1, v2, v3, v4, v5, b0, b1, b2, b3, b4, b5, A⟩ := xq_110 T
    exact ⟨v0, v1, v2, v3, v4, v5, b0, b1, b2, b3, b4, b5, A⟩
  · obtain ⟨v0, v1, v2, v3, v4, v5, b0, b1, b2, b3, b4, b5, A⟩ := xq_111 T
    exact ⟨v0, v1, v2, v3, v4, v5, b0, b1, b2, b3, b4, b5, A⟩
  · obtain ⟨v0, v1, v2, v3, v4, v5, b0, b1, b2, b3, b4, b5, A⟩ := xq_112 T
    exact ⟨v0, v1, v2, v3, v4, v5, b0, b1, b2, b3, b4, b5, A⟩
  · obtain ⟨v0, v1, v2, v3, v4, v5, b0, b1, b2, b3, b4, b5, A⟩ := xq_113 T
    exact ⟨v0, v1, v2, v3, v4, v5, b0, b1, b2, b3, b4, b5, A⟩
  · obtain ⟨v0, v1, v2, v3, v4, v5, b0, b1, b2, b3, b4, b5, A⟩ := xq_114 T
    exact ⟨v0, v1, v2, v3, v4, v5, b0, b1, b2, b3, b4, b5, A⟩
theorem xGo_trial {a : Nat} (ha : List.elem a xG_trial = true) : ∃ ds : List xt_F, xT[a]? = some (.inl (10, ds)) ∧ ds[0]? = some (.inr (some ((-2147483648), 2147483647))) ∧ ds[1]? = some (.inr (some ((-2147483648), 2147483647))) ∧ ds[2]? = some (.inr (some ((-2147483648), 2147483647))) ∧ ds[3]? = some (.inr (some ((-2147483648), 2147483647))) ∧ ds[4]? = some (.inr (some ((-2147483648), 2147483647))) ∧ ds[5]? = some (.inr (some ((-2147483648), 2147483647))) := by
  rcases xG_trial_or ha with rfl | rfl | rfl | rfl | rfl | rfl | rfl | rfl | rfl | rfl | rfl | rfl | rfl | rfl | rfl | rfl | rfl | rfl | rfl | rfl
  all_goals exact ⟨_, rfl, rfl, rfl, rfl, rfl, rfl, rfl⟩
theorem xR_2 {i : Int32} (h0 : 0 ≤ i.toInt) (h1 : i.toInt < 6) : ∃ a : Nat, va_rf (([some 11, some 14, some 17, some 20, some 23, some 26] : List (Option Nat)).getD i.toNatClampNeg none) = .ref a ∧ List.elem a xG_room = true := by
  have hn : i.toNatClampNeg < 6 := xj_nat h0 h1
  generalize i.toNatClampNeg = n at hn
  match n, hn with
  | 0, _ => exact ⟨11, rfl, rfl⟩
  | 1, _ => exact ⟨14, rfl, rfl⟩
  | 2, _ => exact ⟨17, rfl, rfl⟩
  | 3, _ => exact ⟨20, rfl, rfl⟩
  | 4, _ => exact ⟨23, rfl, rfl⟩
  | 5, _ => exact ⟨26, rfl, rfl⟩
  | n + 6, h => exact absurd h (by omega)
theorem xR_3 {i : Int32} (h0 : 0 ≤ i.toInt) (h1 : i.toInt < 12) : ∃ a : Nat, va_rf (([some 29, some 31, some 33, some 35, some 37, some 39, some 41, some 43, some 45, some 47, some 49, some 51] : List (Option Nat)).getD i.toNatClampNeg none) = .ref a ∧ List.elem a xG_wall = true := by
  have hn : i.toNatClampNeg < 12 := xj_nat h0 h1
  generalize i.toNatClampNeg = n at hn
  match n, hn with
  | 0, _ => exact ⟨29, rfl, rfl⟩
  | 1, _ => exact ⟨31, rfl, rfl⟩
  | 2, _ => exact ⟨33, rfl, rfl⟩
  | 3, _ => exact ⟨35, rfl, rfl⟩
  | 4, _ => exact ⟨37, rfl, rfl⟩
  | 5, _ => exact ⟨39, rfl, rfl⟩
  | 6, _ => exact ⟨41, rfl, rfl⟩
  | 7, _ => exact ⟨43, rfl, rfl⟩
  | 8, _ => exact ⟨45, rfl, rfl⟩
  | 9, _ => exact ⟨47, rfl, rfl⟩
  | 10, _ => exact ⟨49, rfl, rfl⟩
  | 11, _ => exact ⟨51, rfl, rfl⟩
  | n + 12, h => exact absurd h (by omega)
theorem xR_4 {i : Int32} (h0 : 0 ≤ i.toInt) (h1 : i.toInt < 10) : ∃ a : Nat, va_rf (([some 53, some 54, some 55, some 56, some 57, some 58, some 59, some 60, some 61, some 62] : List (Option Nat)).getD i.toNatClampNeg none) = .ref a ∧ List.elem a xG_cause = true := by
  have hn : i.toNatClampNeg < 10 := xj_nat h0 h1
  generalize i.toNatClampNeg = n at hn
  match n, hn with
  | 0, _ => exact ⟨53, rfl, rfl⟩
  | 1, _ => exact ⟨54, rfl, rfl⟩
  | 2, _ => exact ⟨55, rfl, rfl⟩
  | 3, _ => exact ⟨56, rfl, rfl⟩
  | 4, _ => exact ⟨57, rfl, rfl⟩
  | 5, _ => exact ⟨58, rfl, rfl⟩
  | 6, _ => exact ⟨59, rfl, rfl⟩
  | 7, _ => exact ⟨60, rfl, rfl⟩
  | 8, _ => exact ⟨61, rfl, rfl⟩
  | 9, _ => exact ⟨62, rfl, rfl⟩
  | n + 10, h => exact absurd h (by omega)
theorem xR_93 {i : Int32} (h0 : 0 ≤ i.toInt) (h1 : i.toInt < 20) : ∃ a : Nat, va_rf (([some 95, some 96, some 97, some 98, some 99, some 100, some 101, some 102, some 103, some 104, some 105, some 106, some 107, some 108, some 109, some 110, some 111, some 112, some 113, some 114] : List (Option Nat)).getD i.toNatClampNeg none) = .ref a ∧ List.elem a xG_trial = true := by
  have hn : i.toNatClampNeg < 20 := xj_nat h0 h1
  generalize i.toNatClampNeg = n at hn
  match n, hn with
  | 0, _ => exact ⟨95, rfl, rfl⟩
  | 1, _ => exact ⟨96, rfl, rfl⟩
  | 2, _ => exact ⟨97, rfl, rfl⟩
  | 3, _ => exact ⟨98, rfl, rfl⟩
  | 4, _ => exact ⟨99, rfl, rfl⟩
  | 5, _ => exact ⟨100, rfl, rfl⟩
  | 6, _ => exact ⟨101, rfl, rfl⟩
  | 7, _ => exact ⟨102, rfl, rfl⟩
  | 8, _ => exact ⟨103, rfl, rfl⟩
  | 9, _ => exact ⟨104, rfl, rfl⟩
  | 10, _ => exact ⟨105, rfl, rfl⟩
  | 11, _ => exact ⟨106, rfl, rfl⟩
  | 12, _ => exact ⟨107, rfl, rfl⟩
  | 13, _ => exact ⟨108, rfl, rfl⟩
  | 14, _ => exact ⟨109, rfl, rfl⟩
  | 15, _ => exact ⟨110, rfl, rfl⟩
  | 16, _ => exact ⟨111, rfl, rfl⟩
  | 17, _ => exact ⟨112, rfl, rfl⟩
  | 18, _ => exact ⟨113, rfl, rfl⟩
  | 19, _ => exact ⟨114, rfl, rfl⟩
  | n + 20, h => exact absurd h (by omega)
