/-! THE WORLD: shapes and references as the constructors leave them; 12 and 23 are the two towns -/
def jS0l : List (Nat × Nat) := [(11, 14), (7, 3), (105, 4), (101, 64), (101, 64), (101, 64), (101, 64), (100, 4), (100, 4), (4, 12), (100, 500), (6, 16), (101, 8), (100, 8), (100, 8), (100, 8), (100, 8), (100, 32), (100, 32), (103, 12), (100, 40), (100, 64), (6, 16), (101, 8), (100, 8), (100, 8), (100, 8), (100, 8), (100, 32), (100, 32), (103, 12), (100, 40), (100, 64), (10, 4), (100, 12), (103, 12), (100, 288), (8, 6), (100, 8), (9, 4), (9, 4), (9, 4), (1, 5), (103, 64), (103, 64), (100, 64), (100, 8), (3, 3), (104, 25), (100, 64), (100, 64), (100, 64), (100, 64), (100, 64), (100, 64), (100, 64), (100, 64), (100, 64), (100, 64), (100, 64), (100, 64), (100, 64), (100, 64), (100, 64), (100, 64), (100, 64), (100, 64), (100, 64), (100, 64), (100, 64), (100, 64), (100, 64), (100, 64), (100, 64), (104, 25), (100, 64), (100, 64), (100, 64), (100, 64), (100, 64), (100, 64), (100, 64), (100, 64), (100, 64), (100, 64), (100, 64), (100, 64), (100, 64), (100, 64), (100, 64), (100, 64), (100, 64), (100, 64), (100, 64), (100, 64), (100, 64), (100, 64), (100, 64), (100, 64), (100, 64), (100, 25), (5, 10), (100, 5), (100, 5), (104, 5), (100, 64), (100, 64), (100, 64), (100, 64), (100, 64), (100, 5), (5, 10), (100, 5), (100, 5), (104, 5), (100, 64), (100, 64), (100, 64), (100, 64), (100, 64), (100, 5), (2, 5), (100, 256), (101, 64), (101, 64), (9, 4), (9, 4), (0, 6), (100, 9), (101, 4), (101, 4), (101, 12), (12, 79), (100, 4), (100, 4), (101, 256), (102, 500), (100, 24), (100, 24), (100, 8), (100, 8), (100, 32), (100, 32), (100, 12), (100, 12), (100, 12), (100, 12), (103, 12), (101, 8), (100, 12), (100, 288), (103, 12), (100, 3), (100, 3), (100, 3), (100, 8), (100, 8), (100, 6), (100, 5), (100, 6), (101, 3), (103, 64), (103, 64), (100, 8), (101, 64), (101, 64), (100, 3), (100, 3), (100, 9), (101, 3), (101, 6)]
def jS0 (L a : Nat) : Nat × Nat := match a with | 0 => (100, L) | k + 1 => jS0l.getD k (999, 0)
theorem jS0_0 (L : Nat) : jS0 L 0 = (100, L) := rfl
theorem jS0_1 (L : Nat) : jS0 L 1 = (11, 14) := rfl
theorem jS0_2 (L : Nat) : jS0 L 2 = (7, 3) := rfl
theorem jS0_3 (L : Nat) : jS0 L 3 = (105, 4) := rfl
theorem jS0_4 (L : Nat) : jS0 L 4 = (101, 64) := rfl
theorem jS0_5 (L : Nat) : jS0 L 5 = (101, 64) := rfl
theorem jS0_6 (L : Nat) : jS0 L 6 = (101, 64) := rfl
theorem jS0_7 (L : Nat) : jS0 L 7 = (101, 64) := rfl
theorem jS0_8 (L : Nat) : jS0 L 8 = (100, 4) := rfl
theorem jS0_9 (L : Nat) : jS0 L 9 = (100, 4) := rfl
theorem jS0_10 (L : Nat) : jS0 L 10 = (4, 12) := rfl
theorem jS0_11 (L : Nat) : jS0 L 11 = (100, 500) := rfl
theorem jS0_12 (L : Nat) : jS0 L 12 = (6, 16) := rfl
theorem jS0_13 (L : Nat) : jS0 L 13 = (101, 8) := rfl
theorem jS0_14 (L : Nat) : jS0 L 14 = (100, 8) := rfl
theorem jS0_15 (L : Nat) : jS0 L 15 = (100, 8) := rfl
theorem jS0_16 (L : Nat) : jS0 L 16 = (100, 8) := rfl
theorem jS0_17 (L : Nat) : jS0 L 17 = (100, 8) := rfl
theorem jS0_18 (L : Nat) : jS0 L 18 = (100, 32) := rfl
theorem jS0_19 (L : Nat) : jS0 L 19 = (100, 32) := rfl
theorem jS0_20 (L : Nat) : jS0 L 20 = (103, 12) := rfl
theorem jS0_21 (L : Nat) : jS0 L 21 = (100, 40) := rfl
theorem jS0_22 (L : Nat) : jS0 L 22 = (100, 64) := rfl
theorem jS0_23 (L : Nat) : jS0 L 23 = (6, 16) := rfl
theorem jS0_24 (L : Nat) : jS0 L 24 = (101, 8) := rfl
theorem jS0_25 (L : Nat) : jS0 L 25 = (100, 8) := rfl
theorem jS0_26 (L : Nat) : jS0 L 26 = (100, 8) := rfl
theorem jS0_27 (L : Nat) : jS0 L 27 = (100, 8) := rfl
theorem jS0_28 (L : Nat) : jS0 L 28 = (100, 8) := rfl
theorem jS0_29 (L : Nat) : jS0 L 29 = (100, 32) := rfl
theorem jS0_30 (L : Nat) : jS0 L 30 = (100, 32) := rfl
theorem jS0_31 (L : Nat) : jS0 L 31 = (103, 12) := rfl
theorem jS0_32 (L : Nat) : jS0 L 32 = (100, 40) := rfl
theorem jS0_33 (L : Nat) : jS0 L 33 = (100, 64) := rfl
theorem jS0_34 (L : Nat) : jS0 L 34 = (10, 4) := rfl
theorem jS0_35 (L : Nat) : jS0 L 35 = (100, 12) := rfl
theorem jS0_36 (L : Nat) : jS0 L 36 = (103, 12) := rfl
theorem jS0_37 (L : Nat) : jS0 L 37 = (100, 288) := rfl
theorem jS0_38 (L : Nat) : jS0 L 38 = (8, 6) := rfl
theorem jS0_39 (L : Nat) : jS0 L 39 = (100, 8) := rfl
theorem jS0_40 (L : Nat) : jS0 L 40 = (9, 4) := rfl
theorem jS0_41 (L : Nat) : jS0 L 41 = (9, 4) := rfl
theorem jS0_42 (L : Nat) : jS0 L 42 = (9, 4) := rfl
theorem jS0_43 (L : Nat) : jS0 L 43 = (1, 5) := rfl
theorem jS0_44 (L : Nat) : jS0 L 44 = (103, 64) := rfl
theorem jS0_45 (L : Nat) : jS0 L 45 = (103, 64) := rfl
theorem jS0_46 (L : Nat) : jS0 L 46 = (100, 64) := rfl
theorem jS0_47 (L : Nat) : jS0 L 47 = (100, 8) := rfl
theorem jS0_48 (L : Nat) : jS0 L 48 = (3, 3) := rfl
theorem jS0_49 (L : Nat) : jS0 L 49 = (104, 25) := rfl
theorem jS0_50 (L : Nat) : jS0 L 50 = (100, 64) := rfl
theorem jS0_51 (L : Nat) : jS0 L 51 = (100, 64) := rfl
theorem jS0_52 (L : Nat) : jS0 L 52 = (100, 64) := rfl
theorem jS0_53 (L : Nat) : jS0 L 53 = (100, 64) := rfl
theorem jS0_54 (L : Nat) : jS0 L 54 = (100, 64) := rfl
theorem jS0_55 (L : Nat) : jS0 L 55 = (100, 64) := rfl
theorem jS0_56 (L : Nat) : jS0 L 56 = (100, 64) := rfl
theorem jS0_57 (L : Nat) : jS0 L 57 = (100, 64) := rfl
theorem jS0_58 (L : Nat) : jS0 L 58 = (100, 64) := rfl
theorem jS0_59 (L : Nat) : jS0 L 59 = (100, 64) := rfl
theorem jS0_60 (L : Nat) : jS0 L 60 = (100, 64) := rfl
theorem jS0_61 (L : Nat) : jS0 L 61 = (100, 64) := rfl
theorem jS0_62 (L : Nat) : jS0 L 62 = (100, 64) := rfl
theorem jS0_63 (L : Nat) : jS0 L 63 = (100, 64) := rfl
theorem jS0_64 (L : Nat) : jS0 L 64 = (100, 64) := rfl
theorem jS0_65 (L : Nat) : jS0 L 65 = (100, 64) := rfl
theorem jS0_66 (L : Nat) : jS0 L 66 = (100, 64) := rfl
theorem jS0_67 (L : Nat) : jS0 L 67 = (100, 64) := rfl
theorem jS0_68 (L : Nat) : jS0 L 68 = (100, 64) := rfl
theorem jS0_69 (L : Nat) : jS0 L 69 = (100, 64) := rfl
theorem jS0_70 (L : Nat) : jS0 L 70 = (100, 64) := rfl
theorem jS0_71 (L : Nat) : jS0 L 71 = (100, 64) := rfl
theorem jS0_72 (L : Nat) : jS0 L 72 = (100, 64) := rfl
theorem jS0_73 (L : Nat) : jS0 L 73 = (100, 64) := rfl
theorem jS0_74 (L : Nat) : jS0 L 74 = (100, 64) := rfl
theorem jS0_75 (L : Nat) : jS0 L 75 = (104, 25) := rfl
theorem jS0_76 (L : Nat) : jS0 L 76 = (100, 64) := rfl
theorem jS0_77 (L : Nat) : jS0 L 77 = (100, 64) := rfl
theorem jS0_78 (L : Nat) : jS0 L 78 = (100, 64) := rfl
theorem jS0_79 (L : Nat) : jS0 L 79 = (100, 64) := rfl
theorem jS0_80 (L : Nat) : jS0 L 80 = (100, 64) := rfl
theorem jS0_81 (L : Nat) : jS0 L 81 = (100, 64) := rfl
theorem jS0_82 (L : Nat) : jS0 L 82 = (100, 64) := rfl
theorem jS0_83 (L : Nat) : jS0 L 83 = (100, 64) := rfl
theorem jS0_84 (L : Nat) : jS0 L 84 = (100, 64) := rfl
theorem jS0_85 (L : Nat) : jS0 L 85 = (100, 64) := rfl
theorem jS0_86 (L : Nat) : jS0 L 86 = (100, 64) := rfl
theorem jS0_87 (L : Nat) : jS0 L 87 = (100, 64) := rfl
theorem jS0_88 (L : Nat) : jS0 L 88 = (100, 64) := rfl
theorem jS0_89 (L : Nat) : jS0 L 89 = (100, 64) := rfl
theorem jS0_90 (L : Nat) : jS0 L 90 = (100, 64) := rfl
theorem jS0_91 (L : Nat) : jS0 L 91 = (100, 64) := rfl
theorem jS0_92 (L : Nat) : jS0 L 92 = (100, 64) := rfl
theorem jS0_93 (L : Nat) : jS0 L 93 = (100, 64) := rfl
theorem jS0_94 (L : Nat) : jS0 L 94 = (100, 64) := rfl
theorem jS0_95 (L : Nat) : jS0 L 95 = (100, 64) := rfl
theorem jS0_96 (L : Nat) : jS0 L 96 = (100, 64) := rfl
theorem jS0_97 (L : Nat) : jS0 L 97 = (100, 64) := rfl
theorem jS0_98 (L : Nat) : jS0 L 98 = (100, 64) := rfl
theorem jS0_99 (L : Nat) : jS0 L 99 = (100, 64) := rfl
theorem jS0_100 (L : Nat) : jS0 L 100 = (100, 64) := rfl
theorem jS0_101 (L : Nat) : jS0 L 101 = (100, 25) := rfl
theorem jS0_102 (L : Nat) : jS0 L 102 = (5, 10) := rfl
theorem jS0_103 (L : Nat) : jS0 L 103 = (100, 5) := rfl
theorem jS0_104 (L : Nat) : jS0 L 104 = (100, 5) := rfl
theorem jS0_105 (L : Nat) : jS0 L 105 = (104, 5) := rfl
theorem jS0_106 (L : Nat) : jS0 L 106 = (100, 64) := rfl
theorem jS0_107 (L : Nat) : jS0 L 107 = (100, 64) := rfl
theorem jS0_108 (L : Nat) : jS0 L 108 = (100, 64) := rfl
theorem jS0_109 (L : Nat) : jS0 L 109 = (100, 64) := rfl
theorem jS0_110 (L : Nat) : jS0 L 110 = (100, 64) := rfl
theorem jS0_111 (L : Nat) : jS0 L 111 = (100, 5) := rfl
theorem jS0_112 (L : Nat) : jS0 L 112 = (5, 10) := rfl
theorem jS0_113 (L : Nat) : jS0 L 113 = (100, 5) := rfl
theorem jS0_114 (L : Nat) : jS0 L 114 = (100, 5) := rfl
theorem jS0_115 (L : Nat) : jS0 L 115 = (104, 5) := rfl
theorem jS0_116 (L : Nat) : jS0 L 116 = (100, 64) := rfl
theorem jS0_117 (L : Nat) : jS0 L 117 = (100, 64) := rfl
theorem jS0_118 (L : Nat) : jS0 L 118 = (100, 64) := rfl
theorem jS0_119 (L : Nat) : jS0 L 119 = (100, 64) := rfl
theorem jS0_120 (L : Nat) : jS0 L 120 = (100, 64) := rfl
theorem jS0_121 (L : Nat) : jS0 L 121 = (100, 5) := rfl
theorem jS0_122 (L : Nat) : jS0 L 122 = (2, 5) := rfl
theorem jS0_123 (L : Nat) : jS0 L 123 = (100, 256) := rfl
theorem jS0_124 (L : Nat) : jS0 L 124 = (101, 64) := rfl
theorem jS0_125 (L : Nat) : jS0 L 125 = (101, 64) := rfl
theorem jS0_126 (L : Nat) : jS0 L 126 = (9, 4) := rfl
theorem jS0_127 (L : Nat) : jS0 L 127 = (9, 4) := rfl
theorem jS0_128 (L : Nat) : jS0 L 128 = (0, 6) := rfl
theorem jS0_129 (L : Nat) : jS0 L 129 = (100, 9) := rfl
theorem jS0_130 (L : Nat) : jS0 L 130 = (101, 4) := rfl
theorem jS0_131 (L : Nat) : jS0 L 131 = (101, 4) := rfl
theorem jS0_132 (L : Nat) : jS0 L 132 = (101, 12) := rfl
theorem jS0_133 (L : Nat) : jS0 L 133 = (12, 79) := rfl
theorem jS0_134 (L : Nat) : jS0 L 134 = (100, 4) := rfl
theorem jS0_135 (L : Nat) : jS0 L 135 = (100, 4) := rfl
theorem jS0_136 (L : Nat) : jS0 L 136 = (101, 256) := rfl
theorem jS0_137 (L : Nat) : jS0 L 137 = (102, 500) := rfl
theorem jS0_138 (L : Nat) : jS0 L 138 = (100, 24) := rfl
theorem jS0_139 (L : Nat) : jS0 L 139 = (100, 24) := rfl
theorem jS0_140 (L : Nat) : jS0 L 140 = (100, 8) := rfl
theorem jS0_141 (L : Nat) : jS0 L 141 = (100, 8) := rfl
theorem jS0_142 (L : Nat) : jS0 L 142 = (100, 32) := rfl
theorem jS0_143 (L : Nat) : jS0 L 143 = (100, 32) := rfl
theorem jS0_144 (L : Nat) : jS0 L 144 = (100, 12) := rfl
theorem jS0_145 (L : Nat) : jS0 L 145 = (100, 12) := rfl
theorem jS0_146 (L : Nat) : jS0 L 146 = (100, 12) := rfl
theorem jS0_147 (L : Nat) : jS0 L 147 = (100, 12) := rfl
theorem jS0_148 (L : Nat) : jS0 L 148 = (103, 12) := rfl
theorem jS0_149 (L : Nat) : jS0 L 149 = (101, 8) := rfl
theorem jS0_150 (L : Nat) : jS0 L 150 = (100, 12) := rfl
theorem jS0_151 (L : Nat) : jS0 L 151 = (100, 288) := rfl
theorem jS0_152 (L : Nat) : jS0 L 152 = (103, 12) := rfl
theorem jS0_153 (L : Nat) : jS0 L 153 = (100, 3) := rfl
theorem jS0_154 (L : Nat) : jS0 L 154 = (100, 3) := rfl
theorem jS0_155 (L : Nat) : jS0 L 155 = (100, 3) := rfl
theorem jS0_156 (L : Nat) : jS0 L 156 = (100, 8) := rfl
theorem jS0_157 (L : Nat) : jS0 L 157 = (100, 8) := rfl
theorem jS0_158 (L : Nat) : jS0 L 158 = (100, 6) := rfl
theorem jS0_159 (L : Nat) : jS0 L 159 = (100, 5) := rfl
theorem jS0_160 (L : Nat) : jS0 L 160 = (100, 6) := rfl
theorem jS0_161 (L : Nat) : jS0 L 161 = (101, 3) := rfl
theorem jS0_162 (L : Nat) : jS0 L 162 = (103, 64) := rfl
theorem jS0_163 (L : Nat) : jS0 L 163 = (103, 64) := rfl
theorem jS0_164 (L : Nat) : jS0 L 164 = (100, 8) := rfl
theorem jS0_165 (L : Nat) : jS0 L 165 = (101, 64) := rfl
theorem jS0_166 (L : Nat) : jS0 L 166 = (101, 64) := rfl
theorem jS0_167 (L : Nat) : jS0 L 167 = (100, 3) := rfl
theorem jS0_168 (L : Nat) : jS0 L 168 = (100, 3) := rfl
theorem jS0_169 (L : Nat) : jS0 L 169 = (100, 9) := rfl
theorem jS0_170 (L : Nat) : jS0 L 170 = (101, 3) := rfl
theorem jS0_171 (L : Nat) : jS0 L 171 = (101, 6) := rfl
def jRl : List (Nat × Nat × Nat) := [(1, 3, 2), (1, 4, 10), (1, 7, 34), (1, 8, 38), (1, 9, 43), (1, 10, 102), (1, 11, 112), (1, 12, 122), (1, 13, 128), (2, 0, 3), (2, 1, 8), (2, 2, 9), (10, 0, 11), (12, 6, 13), (12, 7, 14), (12, 8, 15), (12, 9, 16), (12, 10, 17), (12, 11, 18), (12, 12, 19), (12, 13, 20), (12, 14, 21), (12, 15, 22), (23, 6, 24), (23, 7, 25), (23, 8, 26), (23, 9, 27), (23, 10, 28), (23, 11, 29), (23, 12, 30), (23, 13, 31), (23, 14, 32), (23, 15, 33), (34, 1, 35), (34, 2, 36), (34, 3, 37), (38, 0, 40), (38, 1, 41), (38, 2, 42), (38, 3, 39), (40, 0, 34), (41, 0, 34), (42, 0, 34), (43, 0, 44), (43, 1, 45), (43, 2, 46), (43, 4, 47), (48, 0, 49), (48, 1, 75), (48, 2, 101), (102, 0, 48), (102, 6, 103), (102, 7, 104), (102, 8, 105), (102, 9, 111), (112, 0, 48), (112, 6, 113), (112, 7, 114), (112, 8, 115), (112, 9, 121), (122, 0, 126), (122, 1, 127), (122, 2, 123), (122, 3, 124), (122, 4, 125), (126, 0, 34), (127, 0, 34), (128, 2, 129), (128, 3, 130), (128, 4, 131), (128, 5, 132), (133, 4, 134), (133, 5, 135), (133, 6, 136), (133, 7, 137), (133, 31, 138), (133, 32, 139), (133, 33, 140), (133, 34, 141), (133, 35, 142), (133, 36, 143), (133, 37, 144), (133, 38, 145), (133, 39, 146), (133, 40, 147), (133, 41, 148), (133, 42, 149), (133, 44, 150), (133, 45, 151), (133, 46, 152), (133, 47, 153), (133, 48, 154), (133, 49, 155), (133, 50, 156), (133, 51, 157), (133, 55, 158), (133, 56, 159), (133, 57, 160), (133, 58, 161), (133, 62, 162), (133, 65, 163), (133, 66, 164), (133, 67, 165), (133, 68, 166), (133, 69, 167), (133, 70, 168), (133, 71, 169), (133, 74, 170), (133, 75, 171)]
def jWd (L t : Nat) (μ : jMem) : Prop := (∀ a, gS μ a = jS0 L a) ∧ (∀ e ∈ jRl, gR μ e.1 e.2.1 = some e.2.2) ∧ (∀ j, j < 4 → gR μ 3 j = some (4 + j)) ∧ (∀ j, j < 25 → gR μ 49 j = some (50 + j)) ∧ (∀ j, j < 25 → gR μ 75 j = some (76 + j)) ∧ (∀ j, j < 5 → gR μ 105 j = some (106 + j)) ∧ (∀ j, j < 5 → gR μ 115 j = some (116 + j)) ∧ (t = 12 ∨ t = 23) ∧ gR μ 1 5 = some t ∧ gR μ 1 6 = some (35 - t)
theorem jrf {L t : Nat} {μ : jMem} (hW : jWd L t μ) (a k v : Nat) (h : (a, k, v) ∈ jRl) : gR μ a k = some v := hW.2.1 (a, k, v) h
theorem jWd_of {L t : Nat} {μ ν : jMem} (hS : ∀ a, gS ν a = gS μ a) (hR : ∀ a k, gR ν a k = gR μ a k) (h : jWd L t μ) : jWd L t ν :=
  ⟨fun a => (hS a).trans (h.1 a), fun e he => (hR _ _).trans (h.2.1 e he), fun j hj => (hR _ _).trans (h.2.2.1 j hj), fun j hj => (hR _ _).trans (h.2.2.2.1 j hj), fun j hj => (hR _ _).trans (h.2.2.2.2.1 j hj), fun j hj => (hR _ _).trans (h.2.2.2.2.2.1 j hj), fun j hj => (hR _ _).trans (h.2.2.2.2.2.2.1 j hj), h.2.2.2.2.2.2.2.1, (hR _ _).trans h.2.2.2.2.2.2.2.2.1, (hR _ _).trans h.2.2.2.2.2.2.2.2.2⟩
theorem jWd_sI {L t : Nat} {μ : jMem} {a k : Nat} {v : Int32} (h : jWd L t μ) : jWd L t (sI μ a k v) := h
theorem jWd_sL {L t : Nat} {μ : jMem} {a k : Nat} {v : Int64} (h : jWd L t μ) : jWd L t (sL μ a k v) := h
theorem jvin {x N : Int32} {n : Nat} (hN : N.toInt = n) (h0 : ¬ x < 0) (h1 : x < N) : vp_in x n := vp_in_iff.mpr ⟨by
    rw [Int32.lt_iff_toInt_lt] at h0
    have : (0 : Int32).toInt = 0 := rfl
    omega, by
    rw [Int32.lt_iff_toInt_lt] at h1
    omega⟩
theorem jb0 {c : Prop} [Decidable c] : ((if c then (1 : Int32) else 0) = 0) = ¬ c := by by_cases h : c <;> simp [h]
/-- all but some objects' ints and longs is as it was -/
def jFr (A : List Nat) (μ ν : jMem) : Prop := (∀ a, a ∉ A → (∀ k, gI ν a k = gI μ a k) ∧ (∀ k, gL ν a k = gL μ a k)) ∧ (∀ a k, gR ν a k = gR μ a k) ∧ (∀ a, gS ν a = gS μ a) ∧ gN ν = gN μ
theorem jFr.rf {A : List Nat} {μ : jMem} : jFr A μ μ := ⟨fun _ _ => ⟨fun _ => rfl, fun _ => rfl⟩, fun _ _ => rfl, fun _ => rfl, rfl⟩
theorem jFr.trans {A : List Nat} {μ ν ξ : jMem} (h1 : jFr A μ ν) (h2 : jFr A ν ξ) : jFr A μ ξ := ⟨fun a ha => ⟨fun k => ((h2.1 a ha).1 k).trans ((h1.1 a ha).1 k), fun k => ((h2.1 a ha).2 k).trans ((h1.1 a ha).2 k)⟩, fun a k => (h2.2.1 a k).trans (h1.2.1 a k), fun a => (h2.2.2.1 a).trans (h1.2.2.1 a), h2.2.2.2.trans h1.2.2.2⟩
theorem jFr.mono {A B : List Nat} {μ ν : jMem} (h : jFr A μ ν) (hAB : ∀ a ∈ A, a ∈ B) : jFr B μ ν := ⟨fun a ha => h.1 a (fun q => ha (hAB a q)), h.2⟩
theorem jFr.sI {A : List Nat} {μ : jMem} {a k : Nat} {v : Int32} (ha : a ∈ A) : jFr A μ (sI μ a k v) := ⟨fun x hx => ⟨fun j => by
    have hq : ¬ (x = a ∧ j = k) := fun q => hx (q.1 ▸ ha)
    rw [gI_sI, if_neg hq], fun _ => rfl⟩, fun _ _ => rfl, fun _ => rfl, rfl⟩
theorem jFr.sL {A : List Nat} {μ : jMem} {a k : Nat} {v : Int64} (ha : a ∈ A) : jFr A μ (sL μ a k v) := ⟨fun x hx => ⟨fun _ => rfl, fun j => by
    have hq : ¬ (x = a ∧ j = k) := fun q => hx (q.1 ▸ ha)
    rw [gL_sL, if_neg hq]⟩, fun _ _ => rfl, fun _ => rfl, rfl⟩
theorem jFr.wd {A : List Nat} {L t : Nat} {μ ν : jMem} (h : jFr A μ ν) (hw : jWd L t μ) : jWd L t ν := jWd_of h.2.2.1 h.2.1 hw
theorem jr_1_3 {L t : Nat} {μ : jMem} (hW : jWd L t μ) : gR μ 1 3 = some 2 := jrf hW 1 3 2 (by decide +kernel)
theorem jr_1_4 {L t : Nat} {μ : jMem} (hW : jWd L t μ) : gR μ 1 4 = some 10 := jrf hW 1 4 10 (by decide +kernel)
theorem jr_1_7 {L t : Nat} {μ : jMem} (hW : jWd L t μ) : gR μ 1 7 = some 34 := jrf hW 1 7 34 (by decide +kernel)
theorem jr_1_8 {L t : Nat} {μ : jMem} (hW : jWd L t μ) : gR μ 1 8 = some 38 := jrf hW 1 8 38 (by decide +kernel)
theorem jr_1_9 {L t : Nat} {μ : jMem} (hW : jWd L t μ) : gR μ 1 9 = some 43 := jrf hW 1 9 43 (by decide +kernel)
theorem jr_1_10 {L t : Nat} {μ : jMem} (hW : jWd L t μ) : gR μ 1 10 = some 102 := jrf hW 1 10 102 (by decide +kernel)
theorem jr_1_11 {L t : Nat} {μ : jMem} (hW : jWd L t μ) : gR μ 1 11 = some 112 := jrf hW 1 11 112 (by decide +kernel)
theorem jr_1_12 {L t : Nat} {μ : jMem} (hW : jWd L t μ) : gR μ 1 12 = some 122 := jrf hW 1 12 122 (by decide +kernel)
theorem jr_1_13 {L t : Nat} {μ : jMem} (hW : jWd L t μ) : gR μ 1 13 = some 128 := jrf hW 1 13 128 (by decide +kernel)
theorem jr_2_0 {L t : Nat} {μ : jMem} (hW : jWd L t μ) : gR μ 2 0 = some 3 := jrf hW 2 0 3 (by decide +kernel)
theorem jr_2_1 {L t : Nat} {μ : jMem} (hW : jWd L t μ) : gR μ 2 1 = some 8 := jrf hW 2 1 8 (by decide +kernel)
theorem jr_2_2 {L t : Nat} {μ : jMem} (hW : jWd L t μ) : gR μ 2 2 = some 9 := jrf hW 2 2 9 (by decide +kernel)
theorem jr_10_0 {L t : Nat} {μ : jMem} (hW : jWd L t μ) : gR μ 10 0 = some 11 := jrf hW 10 0 11 (by decide +kernel)
theorem jr_12_6 {L t : Nat} {μ : jMem} (hW : jWd L t μ) : gR μ 12 6 = some 13 := jrf hW 12 6 13 (by decide +kernel)
theorem jr_12_7 {L t : Nat} {μ : jMem} (hW : jWd L t μ) : gR μ 12 7 = some 14 := jrf hW 12 7 14 (by decide +kernel)
theorem jr_12_8 {L t : Nat} {μ : jMem} (hW : jWd L t μ) : gR μ 12 8 = some 15 := jrf hW 12 8 15 (by decide +kernel)
theorem jr_12_9 {L t : Nat} {μ : jMem} (hW : jWd L t μ) : gR μ 12 9 = some 16 := jrf hW 12 9 16 (by decide +kernel)
theorem jr_12_10 {L t : Nat} {μ : jMem} (hW : jWd L t μ) : gR μ 12 10 = some 17 := jrf hW 12 10 17 (by decide +kernel)
theorem jr_12_11 {L t : Nat} {μ : jMem} (hW : jWd L t μ) : gR μ 12 11 = some 18 := jrf hW 12 11 18 (by decide +kernel)
theorem jr_12_12 {L t : Nat} {μ : jMem} (hW : jWd L t μ) : gR μ 12 12 = some 19 := jrf hW 12 12 19 (by decide +kernel)
theorem jr_12_13 {L t : Nat} {μ : jMem} (hW : jWd L t μ) : gR μ 12 13 = some 20 := jrf hW 12 13 20 (by decide +kernel)
theorem jr_12_14 {L t : Nat} {μ : jMem} (hW : jWd L t μ) : gR μ 12 14 = some 21 := jrf hW 12 14 21 (by decide +kernel)
theorem jr_12_15 {L t : Nat} {μ : jMem} (hW : jWd L t μ) : gR μ 12 15 = some 22 := jrf hW 12 15 22 (by decide +kernel)
theorem jr_23_6 {L t : Nat} {μ : jMem} (hW : jWd L t μ) : gR μ 23 6 = some 24 := jrf hW 23 6 24 (by decide +kernel)
theorem jr_23_7 {L t : Nat} {μ : jMem} (hW : jWd L t μ) : gR μ 23 7 = some 25 := jrf hW 23 7 25 (by decide +kernel)
theorem jr_23_8 {L t : Nat} {μ : jMem} (hW : jWd L t μ) : gR μ 23 8 = some 26 := jrf hW 23 8 26 (by decide +kernel)
theorem jr_23_9 {L t : Nat} {μ : jMem} (hW : jWd L t μ) : gR μ 23 9 = some 27 := jrf hW 23 9 27 (by decide +kernel)
theorem jr_23_10 {L t : Nat} {μ : jMem} (hW : jWd L t μ) : gR μ 23 10 = some 28 := jrf hW 23 10 28 (by decide +kernel)
theorem jr_23_11 {L t : Nat} {μ : jMem} (hW : jWd L t μ) : gR μ 23 11 = some 29 := jrf hW 23 11 29 (by decide +kernel)
theorem jr_23_12 {L t : Nat} {μ : jMem} (hW : jWd L t μ) : gR μ 23 12 = some 30 := jrf hW 23 12 30 (by decide +kernel)
theorem jr_23_13 {L t : Nat} {μ : jMem} (hW : jWd L t μ) : gR μ 23 13 = some 31 := jrf hW 23 13 31 (by decide +kernel)
theorem jr_23_14 {L t : Nat} {μ : jMem} (hW : jWd L t μ) : gR μ 23 14 = some 32 := jrf hW 23 14 32 (by decide +kernel)
theorem jr_23_15 {L t : Nat} {μ : jMem} (hW : jWd L t μ) : gR μ 23 15 = some 33 := jrf hW 23 15 33 (by decide +kernel)
theorem jr_34_1 {L t : Nat} {μ : jMem} (hW : jWd L t μ) : gR μ 34 1 = some 35 := jrf hW 34 1 35 (by decide +kernel)
theorem jr_34_2 {L t : Nat} {μ : jMem} (hW : jWd L t μ) : gR μ 34 2 = some 36 := jrf hW 34 2 36 (by decide +kernel)
theorem jr_34_3 {L t : Nat} {μ : jMem} (hW : jWd L t μ) : gR μ 34 3 = some 37 := jrf hW 34 3 37 (by decide +kernel)
theorem jr_38_0 {L t : Nat} {μ : jMem} (hW : jWd L t μ) : gR μ 38 0 = some 40 := jrf hW 38 0 40 (by decide +kernel)
theorem jr_38_1 {L t : Nat} {μ : jMem} (hW : jWd L t μ) : gR μ 38 1 = some 41 := jrf hW 38 1 41 (by decide +kernel)
theorem jr_38_2 {L t : Nat} {μ : jMem} (hW : jWd L t μ) : gR μ 38 2 = some 42 := jrf hW 38 2 42 (by decide +kernel)
theorem jr_38_3 {L t : Nat} {μ : jMem} (hW : jWd L t μ) : gR μ 38 3 = some 39 := jrf hW 38 3 39 (by decide +kernel)
theorem jr_40_0 {L t : Nat} {μ : jMem} (hW : jWd L t μ) : gR μ 40 0 = some 34 := jrf hW 40 0 34 (by decide +kernel)
theorem jr_41_0 {L t : Nat} {μ : jMem} (hW : jWd L t μ) : gR μ 41 0 = some 34 := jrf hW 41 0 34 (by decide +kernel)
theorem jr_42_0 {L t : Nat} {μ : jMem} (hW : jWd L t μ) : gR μ 42 0 = some 34 := jrf hW 42 0 34 (by decide +kernel)
theorem jr_43_0 {L t : Nat} {μ : jMem} (hW : jWd L t μ) : gR μ 43 0 = some 44 := jrf hW 43 0 44 (by decide +kernel)
theorem jr_43_1 {L t : Nat} {μ : jMem} (hW : jWd L t μ) : gR μ 43 1 = some 45 := jrf hW 43 1 45 (by decide +kernel)
theorem jr_43_2 {L t : Nat} {μ : jMem} (hW : jWd L t μ) : gR μ 43 2 = some 46 := jrf hW 43 2 46 (by decide +kernel)
theorem jr_43_4 {L t : Nat} {μ : jMem} (hW : jWd L t μ) : gR μ 43 4 = some 47 := jrf hW 43 4 47 (by decide +kernel)
theorem jr_48_0 {L t : Nat} {μ : jMem} (hW : jWd L t μ) : gR μ 48 0 = some 49 := jrf hW 48 0 49 (by decide +kernel)
theorem jr_48_1 {L t : Nat} {μ : jMem} (hW : jWd L t μ) : gR μ 48 1 = some 75 := jrf hW 48 1 75 (by decide +kernel)
theorem jr_48_2 {L t : Nat} {μ : jMem} (hW : jWd L t μ) : gR μ 48 2 = some 101 := jrf hW 48 2 101 (by decide +kernel)
theorem jr_102_0 {L t : Nat} {μ : jMem} (hW : jWd L t μ) : gR μ 102 0 = some 48 := jrf hW 102 0 48 (by decide +kernel)
theorem jr_102_6 {L t : Nat} {μ : jMem} (hW : jWd L t μ) : gR μ 102 6 = some 103 := jrf hW 102 6 103 (by decide +kernel)
theorem jr_102_7 {L t : Nat} {μ : jMem} (hW : jWd L t μ) : gR μ 102 7 = some 104 := jrf hW 102 7 104 (by decide +kernel)
theorem jr_102_8 {L t : Nat} {μ : jMem} (hW : jWd L t μ) : gR μ 102 8 = some 105 := jrf hW 102 8 105 (by decide +kernel)
theorem jr_102_9 {L t : Nat} {μ : jMem} (hW : jWd L t μ) : gR μ 102 9 = some 111 := jrf hW 102 9 111 (by decide +kernel)
theorem jr_112_0 {L t : Nat} {μ : jMem} (hW : jWd L t μ) : gR μ 112 0 = some 48 := jrf hW 112 0 48 (by decide +kernel)
theorem jr_112_6 {L t : Nat} {μ : jMem} (hW : jWd L t μ) : gR μ 112 6 = some 113 := jrf hW 112 6 113 (by decide +kernel)
theorem jr_112_7 {L t : Nat} {μ : jMem} (hW : jWd L t μ) : gR μ 112 7 = some 114 := jrf hW 112 7 114 (by decide +kernel)
theorem jr_112_8 {L t : Nat} {μ : jMem} (hW : jWd L t μ) : gR μ 112 8 = some 115 := jrf hW 112 8 115 (by decide +kernel)
theorem jr_112_9 {L t : Nat} {μ : jMem} (hW : jWd L t μ) : gR μ 112 9 = some 121 := jrf hW 112 9 121 (by decide +kernel)
theorem jr_122_0 {L t : Nat} {μ : jMem} (hW : jWd L t μ) : gR μ 122 0 = some 126 := jrf hW 122 0 126 (by decide +kernel)
theorem jr_122_1 {L t : Nat} {μ : jMem} (hW : jWd L t μ) : gR μ 122 1 = some 127 := jrf hW 122 1 127 (by decide +kernel)
theorem jr_122_2 {L t : Nat} {μ : jMem} (hW : jWd L t μ) : gR μ 122 2 = some 123 := jrf hW 122 2 123 (by decide +kernel)
theorem jr_122_3 {L t : Nat} {μ : jMem} (hW : jWd L t μ) : gR μ 122 3 = some 124 := jrf hW 122 3 124 (by decide +kernel)
theorem jr_122_4 {L t : Nat} {μ : jMem} (hW : jWd L t μ) : gR μ 122 4 = some 125 := jrf hW 122 4 125 (by decide +kernel)
theorem jr_126_0 {L t : Nat} {μ : jMem} (hW : jWd L t μ) : gR μ 126 0 = some 34 := jrf hW 126 0 34 (by decide +kernel)
theorem jr_127_0 {L t : Nat} {μ : jMem} (hW : jWd L t μ) : gR μ 127 0 = some 34 := jrf hW 127 0 34 (by decide +kernel)
theorem jr_128_2 {L t : Nat} {μ : jMem} (hW : jWd L t μ) : gR μ 128 2 = some 129 := jrf hW 128 2 129 (by decide +kernel)
theorem jr_128_3 {L t : Nat} {μ : jMem} (hW : jWd L t μ) : gR μ 128 3 = some 130 := jrf hW 128 3 130 (by decide +kernel)
theorem jr_128_4 {L t : Nat} {μ : jMem} (hW : jWd L t μ) : gR μ 128 4 = some 131 := jrf hW 128 4 131 (by decide +kernel)
theorem jr_128_5 {L t : Nat} {μ : jMem} (hW : jWd L t μ) : gR μ 128 5 = some 132 := jrf hW 128 5 132 (by decide +kernel)
theorem jr_133_4 {L t : Nat} {μ : jMem} (hW : jWd L t μ) : gR μ 133 4 = some 134 := jrf hW 133 4 134 (by decide +kernel)
theorem jr_133_5 {L t : Nat} {μ : jMem} (hW : jWd L t μ) : gR μ 133 5 = some 135 := jrf hW 133 5 135 (by decide +kernel)
theorem jr_133_6 {L t : Nat} {μ : jMem} (hW : jWd L t μ) : gR μ 133 6 = some 136 := jrf hW 133 6 136 (by decide +kernel)
theorem jr_133_7 {L t : Nat} {μ : jMem} (hW : jWd L t μ) : gR μ 133 7 = some 137 := jrf hW 133 7 137 (by decide +kernel)
theorem jr_133_31 {L t : Nat} {μ : jMem} (hW : jWd L t μ) : gR μ 133 31 = some 138 := jrf hW 133 31 138 (by decide +kernel)
theorem jr_133_32 {L t : Nat} {μ : jMem} (hW : jWd L t μ) : gR μ 133 32 = some 139 := jrf hW 133 32 139 (by decide +kernel)
theorem jr_133_33 {L t : Nat} {μ : jMem} (hW : jWd L t μ) : gR μ 133 33 = some 140 := jrf hW 133 33 140 (by decide +kernel)
theorem jr_133_34 {L t : Nat} {μ : jMem} (hW : jWd L t μ) : gR μ 133 34 = some 141 := jrf hW 133 34 141 (by decide +kernel)
theorem jr_133_35 {L t : Nat} {μ : jMem} (hW : jWd L t μ) : gR μ 133 35 = some 142 := jrf hW 133 35 142 (by decide +kernel)
theorem jr_133_36 {L t : Nat} {μ : jMem} (hW : jWd L t μ) : gR μ 133 36 = some 143 := jrf hW 133 36 143 (by decide +kernel)
theorem jr_133_37 {L t : Nat} {μ : jMem} (hW : jWd L t μ) : gR μ 133 37 = some 144 := jrf hW 133 37 144 (by decide +kernel)
theorem jr_133_38 {L t : Nat} {μ : jMem} (hW : jWd L t μ) : gR μ 133 38 = some 145 := jrf hW 133 38 145 (by decide +kernel)
theorem jr_133_39 {L t : Nat} {μ : jMem} (hW : jWd L t μ) : gR μ 133 39 = some 146 := jrf hW 133 39 146 (by decide +kernel)
theorem jr_133_40 {L t : Nat} {μ : jMem} (hW : jWd L t μ) : gR μ 133 40 = some 147 := jrf hW 133 40 147 (by decide +kernel)
theorem jr_133_41 {L t : Nat} {μ : jMem} (hW : jWd L t μ) : gR μ 133 41 = some 148 := jrf hW 133 41 148 (by decide +kernel)
theorem jr_133_42 {L t : Nat} {μ : jMem} (hW : jWd L t μ) : gR μ 133 42 = some 149 := jrf hW 133 42 149 (by decide +kernel)
theorem jr_133_44 {L t : Nat} {μ : jMem} (hW : jWd L t μ) : gR μ 133 44 = some 150 := jrf hW 133 44 150 (by decide +kernel)
theorem jr_133_45 {L t : Nat} {μ : jMem} (hW : jWd L t μ) : gR μ 133 45 = some 151 := jrf hW 133 45 151 (by decide +kernel)
theorem jr_133_46 {L t : Nat} {μ : jMem} (hW : jWd L t μ) : gR μ 133 46 = some 152 := jrf hW 133 46 152 (by decide +kernel)
theorem jr_133_47 {L t : Nat} {μ : jMem} (hW : jWd L t μ) : gR μ 133 47 = some 153 := jrf hW 133 47 153 (by decide +kernel)
theorem jr_133_48 {L t : Nat} {μ : jMem} (hW : jWd L t μ) : gR μ 133 48 = some 154 := jrf hW 133 48 154 (by decide +kernel)
theorem jr_133_49 {L t : Nat} {μ : jMem} (hW : jWd L t μ) : gR μ 133 49 = some 155 := jrf hW 133 49 155 (by decide +kernel)
theorem jr_133_50 {L t : Nat} {μ : jMem} (hW : jWd L t μ) : gR μ 133 50 = some 156 := jrf hW 133 50 156 (by decide +kernel)
theorem jr_133_51 {L t : Nat} {μ : jMem} (hW : jWd L t μ) : gR μ 133 51 = some 157 := jrf hW 133 51 157 (by decide +kernel)
theorem jr_133_55 {L t : Nat} {μ : jMem} (hW : jWd L t μ) : gR μ 133 55 = some 158 := jrf hW 133 55 158 (by decide +kernel)
theorem jr_133_56 {L t : Nat} {μ : jMem} (hW : jWd L t μ) : gR μ 133 56 = some 159 := jrf hW 133 56 159 (by decide +kernel)
theorem jr_133_57 {L t : Nat} {μ : jMem} (hW : jWd L t μ) : gR μ 133 57 = some 160 := jrf hW 133 57 160 (by decide +kernel)
theorem jr_133_58 {L t : Nat} {μ : jMem} (hW : jWd L t μ) : gR μ 133 58 = some 161 := jrf hW 133 58 161 (by decide +kernel)
theorem jr_133_62 {L t : Nat} {μ : jMem} (hW : jWd L t μ) : gR μ 133 62 = some 162 := jrf hW 133 62 162 (by decide +kernel)
theorem jr_133_65 {L t : Nat} {μ : jMem} (hW : jWd L t μ) : gR μ 133 65 = some 163 := jrf hW 133 65 163 (by decide +kernel)
theorem jr_133_66 {L t : Nat} {μ : jMem} (hW : jWd L t μ) : gR μ 133 66 = some 164 := jrf hW 133 66 164 (by decide +kernel)
theorem jr_133_67 {L t : Nat} {μ : jMem} (hW : jWd L t μ) : gR μ 133 67 = some 165 := jrf hW 133 67 165 (by decide +kernel)
theorem jr_133_68 {L t : Nat} {μ : jMem} (hW : jWd L t μ) : gR μ 133 68 = some 166 := jrf hW 133 68 166 (by decide +kernel)
theorem jr_133_69 {L t : Nat} {μ : jMem} (hW : jWd L t μ) : gR μ 133 69 = some 167 := jrf hW 133 69 167 (by decide +kernel)
theorem jr_133_70 {L t : Nat} {μ : jMem} (hW : jWd L t μ) : gR μ 133 70 = some 168 := jrf hW 133 70 168 (by decide +kernel)
theorem jr_133_71 {L t : Nat} {μ : jMem} (hW : jWd L t μ) : gR μ 133 71 = some 169 := jrf hW 133 71 169 (by decide +kernel)
theorem jr_133_74 {L t : Nat} {μ : jMem} (hW : jWd L t μ) : gR μ 133 74 = some 170 := jrf hW 133 74 170 (by decide +kernel)
theorem jr_133_75 {L t : Nat} {μ : jMem} (hW : jWd L t μ) : gR μ 133 75 = some 171 := jrf hW 133 75 171 (by decide +kernel)
