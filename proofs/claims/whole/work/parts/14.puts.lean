set_option maxRecDepth 100000 in
theorem jmw_1001 : Cond.static Lib.Math.max.name ∈ jtbl ∧ Cond.code Lib.Math.max.name Lib.Math.max.code 2 (some .int) ∈ jtbl := ⟨jtb4 120 rfl rfl, jtb4 121 rfl rfl⟩
set_option maxRecDepth 100000 in
theorem jmw_1002 : Cond.static Lib.Math.min.name ∈ jtbl ∧ Cond.code Lib.Math.min.name Lib.Math.min.code 2 (some .int) ∈ jtbl := ⟨jtb3 39 rfl rfl, jtb3 40 rfl rfl⟩
set_option maxRecDepth 100000 in
theorem jmw_1003 : Cond.static Lib.MathLoose.abs_long.x ∈ jtbl ∧ Cond.code Lib.MathLoose.abs_long.x Lib.MathLoose.abs_long.code 2 (some .long) ∈ jtbl := ⟨jtb8 2 rfl rfl, jtb8 3 rfl rfl⟩
set_option maxRecDepth 100000 in
theorem jmw_1004 : Cond.static Lib.MathLoose.max_long.x ∈ jtbl ∧ Cond.code Lib.MathLoose.max_long.x Lib.MathLoose.max_long.code 4 (some .long) ∈ jtbl := ⟨jtb8 114 rfl rfl, jtb8 115 rfl rfl⟩
set_option maxRecDepth 100000 in
theorem jp_1_9 : jflp "TwoSeek$Game" 9 0 2 "<init>" := ⟨_, rfl, by decide, rfl, Or.inl ⟨jtb2 99 rfl rfl, Or.inr ⟨rfl, rfl, rfl⟩⟩⟩
set_option maxRecDepth 100000 in
theorem jp_1_15 : jflp "TwoSeek$Game" 15 0 3 "<init>" := ⟨_, rfl, by decide, rfl, Or.inl ⟨jtb2 100 rfl rfl, Or.inr ⟨rfl, rfl, rfl⟩⟩⟩
set_option maxRecDepth 100000 in
theorem jp_1_19 : jflp "TwoSeek$Game" 19 0 4 "<init>" := ⟨_, rfl, by decide, rfl, Or.inl ⟨jtb2 101 rfl rfl, Or.inr ⟨rfl, rfl, rfl⟩⟩⟩
set_option maxRecDepth 100000 in
theorem jp_1_22 : jflp "TwoSeek$Game" 22 0 5 "<init>" := ⟨_, rfl, by decide, rfl, Or.inl ⟨jtb2 102 rfl rfl, Or.inr ⟨rfl, rfl, rfl⟩⟩⟩
set_option maxRecDepth 100000 in
theorem jp_1_25 (mn : String) : jflp "TwoSeek$Game" 25 0 0 mn := ⟨_, rfl, by decide, rfl, Or.inl ⟨jtb2 96 rfl rfl, Or.inl rfl⟩⟩
set_option maxRecDepth 100000 in
theorem jp_1_29 (mn : String) : jflp "TwoSeek$Game" 29 0 1 mn := ⟨_, rfl, by decide, rfl, Or.inl ⟨jtb2 98 rfl rfl, Or.inl rfl⟩⟩
set_option maxRecDepth 100000 in
theorem jp_2_9 : jflp "TwoSeek$Likeness" 9 1 0 "<init>" := ⟨_, rfl, by decide, rfl, Or.inl ⟨jtb1 231 rfl rfl, Or.inr ⟨rfl, rfl, rfl⟩⟩⟩
set_option maxRecDepth 100000 in
theorem jp_2_15 : jflp "TwoSeek$Likeness" 15 1 1 "<init>" := ⟨_, rfl, by decide, rfl, Or.inl ⟨jtb1 232 rfl rfl, Or.inr ⟨rfl, rfl, rfl⟩⟩⟩
set_option maxRecDepth 100000 in
theorem jp_2_18 : jflp "TwoSeek$Likeness" 18 1 2 "<init>" := ⟨_, rfl, by decide, rfl, Or.inl ⟨jtb1 233 rfl rfl, Or.inr ⟨rfl, rfl, rfl⟩⟩⟩
set_option maxRecDepth 100000 in
theorem jp_2_22 : jflp "TwoSeek$Likeness" 22 1 4 "<init>" := ⟨_, rfl, by decide, rfl, Or.inl ⟨jtb1 235 rfl rfl, Or.inr ⟨rfl, rfl, rfl⟩⟩⟩
set_option maxRecDepth 100000 in
theorem jp_2_50 (mn : String) : jflp "TwoSeek$Likeness" 50 1 3 mn := ⟨_, rfl, by decide, rfl, Or.inl ⟨jtb1 234 rfl rfl, Or.inl rfl⟩⟩
set_option maxRecDepth 100000 in
theorem jp_3_11 : jflp "TwoSeek$Lots" 11 2 2 "<init>" := ⟨_, rfl, by decide, rfl, Or.inl ⟨jtb2 76 rfl rfl, Or.inr ⟨rfl, rfl, rfl⟩⟩⟩
set_option maxRecDepth 100000 in
theorem jp_3_15 : jflp "TwoSeek$Lots" 15 2 3 "<init>" := ⟨_, rfl, by decide, rfl, Or.inl ⟨jtb2 77 rfl rfl, Or.inr ⟨rfl, rfl, rfl⟩⟩⟩
set_option maxRecDepth 100000 in
theorem jp_3_19 : jflp "TwoSeek$Lots" 19 2 4 "<init>" := ⟨_, rfl, by decide, rfl, Or.inl ⟨jtb2 78 rfl rfl, Or.inr ⟨rfl, rfl, rfl⟩⟩⟩
set_option maxRecDepth 100000 in
theorem jp_3_27 : jflp "TwoSeek$Lots" 27 2 0 "<init>" := ⟨_, rfl, by decide, rfl, Or.inl ⟨jtb2 74 rfl rfl, Or.inr ⟨rfl, rfl, rfl⟩⟩⟩
set_option maxRecDepth 100000 in
theorem jp_3_31 : jflp "TwoSeek$Lots" 31 2 1 "<init>" := ⟨_, rfl, by decide, rfl, Or.inl ⟨jtb2 75 rfl rfl, Or.inr ⟨rfl, rfl, rfl⟩⟩⟩
set_option maxRecDepth 100000 in
theorem jp_4_11 : jflp "TwoSeek$Moves" 11 3 0 "<init>" := ⟨_, rfl, by decide, rfl, Or.inl ⟨jtb2 15 rfl rfl, Or.inr ⟨rfl, rfl, rfl⟩⟩⟩
set_option maxRecDepth 100000 in
theorem jp_4_16 : jflp "TwoSeek$Moves" 16 3 1 "<init>" := ⟨_, rfl, by decide, rfl, Or.inl ⟨jtb2 16 rfl rfl, Or.inr ⟨rfl, rfl, rfl⟩⟩⟩
set_option maxRecDepth 100000 in
theorem jp_4_19 : jflp "TwoSeek$Moves" 19 3 2 "<init>" := ⟨_, rfl, by decide, rfl, Or.inl ⟨jtb2 17 rfl rfl, Or.inr ⟨rfl, rfl, rfl⟩⟩⟩
set_option maxRecDepth 100000 in
theorem jp_5_11 : jflp "TwoSeek$Reader" 11 4 0 "<init>" := ⟨_, rfl, by decide, rfl, Or.inl ⟨jtb1 51 rfl rfl, Or.inr ⟨rfl, rfl, rfl⟩⟩⟩
set_option maxRecDepth 100000 in
theorem jp_5_15 (mn : String) : jflp "TwoSeek$Reader" 15 4 2 mn := ⟨_, rfl, by decide, rfl, Or.inl ⟨jtb1 54 rfl rfl, Or.inl rfl⟩⟩
set_option maxRecDepth 100000 in
theorem jp_5_19 (mn : String) : jflp "TwoSeek$Reader" 19 4 3 mn := ⟨_, rfl, by decide, rfl, Or.inl ⟨jtb1 56 rfl rfl, Or.inl rfl⟩⟩
set_option maxRecDepth 100000 in
theorem jp_5_22 (mn : String) : jflp "TwoSeek$Reader" 22 4 1 mn := ⟨_, rfl, by decide, rfl, Or.inl ⟨jtb1 52 rfl rfl, Or.inl rfl⟩⟩
set_option maxRecDepth 100000 in
theorem jp_5_25 (mn : String) : jflp "TwoSeek$Reader" 25 4 4 mn := ⟨_, rfl, by decide, rfl, Or.inl ⟨jtb1 58 rfl rfl, Or.inl rfl⟩⟩
set_option maxRecDepth 100000 in
theorem jp_5_34 (mn : String) : jflp "TwoSeek$Reader" 34 4 5 mn := ⟨_, rfl, by decide, rfl, Or.inl ⟨jtb1 59 rfl rfl, Or.inl rfl⟩⟩
set_option maxRecDepth 100000 in
theorem jp_5_38 (mn : String) : jflp "TwoSeek$Reader" 38 4 6 mn := ⟨_, rfl, by decide, rfl, Or.inl ⟨jtb1 60 rfl rfl, Or.inl rfl⟩⟩
set_option maxRecDepth 100000 in
theorem jp_5_47 (mn : String) : jflp "TwoSeek$Reader" 47 4 7 mn := ⟨_, rfl, by decide, rfl, Or.inl ⟨jtb1 61 rfl rfl, Or.inl rfl⟩⟩
set_option maxRecDepth 100000 in
theorem jp_5_50 (mn : String) : jflp "TwoSeek$Reader" 50 4 8 mn := ⟨_, rfl, by decide, rfl, Or.inl ⟨jtb1 62 rfl rfl, Or.inl rfl⟩⟩
set_option maxRecDepth 100000 in
theorem jp_5_156 (mn : String) : jflp "TwoSeek$Reader" 156 6 2 mn := ⟨_, rfl, by decide, rfl, Or.inr ⟨_, jtn1 105 rfl rfl, rfl⟩⟩
set_option maxRecDepth 100000 in
theorem jp_5_163 (mn : String) : jflp "TwoSeek$Reader" 163 6 3 mn := ⟨_, rfl, by decide, rfl, Or.inr ⟨_, jtn1 107 rfl rfl, rfl⟩⟩
set_option maxRecDepth 100000 in
theorem jp_5_166 (mn : String) : jflp "TwoSeek$Reader" 166 6 4 mn := ⟨_, rfl, by decide, rfl, Or.inr ⟨_, jtn1 109 rfl rfl, rfl⟩⟩
set_option maxRecDepth 100000 in
theorem jp_5_66 (mn : String) : jflp "TwoSeek$Reader" 66 4 10 mn := ⟨_, rfl, by decide, rfl, Or.inl ⟨jtb1 64 rfl rfl, Or.inl rfl⟩⟩
set_option maxRecDepth 100000 in
theorem jp_5_108 (mn : String) : jflp "TwoSeek$Reader" 108 4 11 mn := ⟨_, rfl, by decide, rfl, Or.inl ⟨jtb1 65 rfl rfl, Or.inl rfl⟩⟩
set_option maxRecDepth 100000 in
theorem jp_5_56 (mn : String) : jflp "TwoSeek$Reader" 56 4 9 mn := ⟨_, rfl, by decide, rfl, Or.inl ⟨jtb1 63 rfl rfl, Or.inl rfl⟩⟩
set_option maxRecDepth 100000 in
theorem jp_6_11 : jflp "TwoSeek$Rows" 11 5 6 "<init>" := ⟨_, rfl, by decide, rfl, Or.inl ⟨jtb2 41 rfl rfl, Or.inr ⟨rfl, rfl, rfl⟩⟩⟩
set_option maxRecDepth 100000 in
theorem jp_6_15 : jflp "TwoSeek$Rows" 15 5 7 "<init>" := ⟨_, rfl, by decide, rfl, Or.inl ⟨jtb2 42 rfl rfl, Or.inr ⟨rfl, rfl, rfl⟩⟩⟩
set_option maxRecDepth 100000 in
theorem jp_6_20 : jflp "TwoSeek$Rows" 20 5 8 "<init>" := ⟨_, rfl, by decide, rfl, Or.inl ⟨jtb2 43 rfl rfl, Or.inr ⟨rfl, rfl, rfl⟩⟩⟩
set_option maxRecDepth 100000 in
theorem jp_6_23 : jflp "TwoSeek$Rows" 23 5 9 "<init>" := ⟨_, rfl, by decide, rfl, Or.inl ⟨jtb2 44 rfl rfl, Or.inr ⟨rfl, rfl, rfl⟩⟩⟩
set_option maxRecDepth 100000 in
theorem jp_6_26 : jflp "TwoSeek$Rows" 26 5 0 "<init>" := ⟨_, rfl, by decide, rfl, Or.inl ⟨jtb2 32 rfl rfl, Or.inr ⟨rfl, rfl, rfl⟩⟩⟩
set_option maxRecDepth 100000 in
theorem jp_6_30 : jflp "TwoSeek$Rows" 30 5 1 "<init>" := ⟨_, rfl, by decide, rfl, Or.inl ⟨jtb2 33 rfl rfl, Or.inr ⟨rfl, rfl, rfl⟩⟩⟩
set_option maxRecDepth 100000 in
theorem jp_6_67 (mn : String) : jflp "TwoSeek$Rows" 67 5 2 mn := ⟨_, rfl, by decide, rfl, Or.inl ⟨jtb2 34 rfl rfl, Or.inl rfl⟩⟩
set_option maxRecDepth 100000 in
theorem jp_6_34 (mn : String) : jflp "TwoSeek$Rows" 34 5 3 mn := ⟨_, rfl, by decide, rfl, Or.inl ⟨jtb2 35 rfl rfl, Or.inl rfl⟩⟩
set_option maxRecDepth 100000 in
theorem jp_6_71 (mn : String) : jflp "TwoSeek$Rows" 71 5 4 mn := ⟨_, rfl, by decide, rfl, Or.inl ⟨jtb2 37 rfl rfl, Or.inl rfl⟩⟩
set_option maxRecDepth 100000 in
theorem jp_6_74 (mn : String) : jflp "TwoSeek$Rows" 74 5 5 mn := ⟨_, rfl, by decide, rfl, Or.inl ⟨jtb2 39 rfl rfl, Or.inl rfl⟩⟩
set_option maxRecDepth 100000 in
theorem jp_7_9 (mn : String) : jflp "TwoSeek$Town" 9 6 3 mn := ⟨_, rfl, by decide, rfl, Or.inl ⟨jtb1 106 rfl rfl, Or.inl rfl⟩⟩
set_option maxRecDepth 100000 in
theorem jp_7_15 : jflp "TwoSeek$Town" 15 6 6 "<init>" := ⟨_, rfl, by decide, rfl, Or.inl ⟨jtb1 113 rfl rfl, Or.inr ⟨rfl, rfl, rfl⟩⟩⟩
set_option maxRecDepth 100000 in
theorem jp_7_19 : jflp "TwoSeek$Town" 19 6 7 "<init>" := ⟨_, rfl, by decide, rfl, Or.inl ⟨jtb1 114 rfl rfl, Or.inr ⟨rfl, rfl, rfl⟩⟩⟩
set_option maxRecDepth 100000 in
theorem jp_7_23 : jflp "TwoSeek$Town" 23 6 8 "<init>" := ⟨_, rfl, by decide, rfl, Or.inl ⟨jtb1 115 rfl rfl, Or.inr ⟨rfl, rfl, rfl⟩⟩⟩
set_option maxRecDepth 100000 in
theorem jp_7_26 : jflp "TwoSeek$Town" 26 6 9 "<init>" := ⟨_, rfl, by decide, rfl, Or.inl ⟨jtb1 116 rfl rfl, Or.inr ⟨rfl, rfl, rfl⟩⟩⟩
set_option maxRecDepth 100000 in
theorem jp_7_29 : jflp "TwoSeek$Town" 29 6 10 "<init>" := ⟨_, rfl, by decide, rfl, Or.inl ⟨jtb1 117 rfl rfl, Or.inr ⟨rfl, rfl, rfl⟩⟩⟩
set_option maxRecDepth 100000 in
theorem jp_7_32 : jflp "TwoSeek$Town" 32 6 11 "<init>" := ⟨_, rfl, by decide, rfl, Or.inl ⟨jtb1 118 rfl rfl, Or.inr ⟨rfl, rfl, rfl⟩⟩⟩
set_option maxRecDepth 100000 in
theorem jp_7_35 : jflp "TwoSeek$Town" 35 6 12 "<init>" := ⟨_, rfl, by decide, rfl, Or.inl ⟨jtb1 119 rfl rfl, Or.inr ⟨rfl, rfl, rfl⟩⟩⟩
set_option maxRecDepth 100000 in
theorem jp_7_38 : jflp "TwoSeek$Town" 38 6 13 "<init>" := ⟨_, rfl, by decide, rfl, Or.inl ⟨jtb1 120 rfl rfl, Or.inr ⟨rfl, rfl, rfl⟩⟩⟩
set_option maxRecDepth 100000 in
theorem jp_7_42 : jflp "TwoSeek$Town" 42 6 14 "<init>" := ⟨_, rfl, by decide, rfl, Or.inl ⟨jtb1 121 rfl rfl, Or.inr ⟨rfl, rfl, rfl⟩⟩⟩
set_option maxRecDepth 100000 in
theorem jp_7_45 : jflp "TwoSeek$Town" 45 6 15 "<init>" := ⟨_, rfl, by decide, rfl, Or.inl ⟨jtb1 122 rfl rfl, Or.inr ⟨rfl, rfl, rfl⟩⟩⟩
set_option maxRecDepth 100000 in
theorem jp_7_48 (mn : String) : jflp "TwoSeek$Town" 48 6 0 mn := ⟨_, rfl, by decide, rfl, Or.inl ⟨jtb1 97 rfl rfl, Or.inl rfl⟩⟩
set_option maxRecDepth 100000 in
theorem jp_7_51 (mn : String) : jflp "TwoSeek$Town" 51 6 1 mn := ⟨_, rfl, by decide, rfl, Or.inl ⟨jtb1 101 rfl rfl, Or.inl rfl⟩⟩
set_option maxRecDepth 100000 in
theorem jp_7_54 (mn : String) : jflp "TwoSeek$Town" 54 6 2 mn := ⟨_, rfl, by decide, rfl, Or.inl ⟨jtb1 104 rfl rfl, Or.inl rfl⟩⟩
set_option maxRecDepth 100000 in
theorem jp_7_58 (mn : String) : jflp "TwoSeek$Town" 58 6 4 mn := ⟨_, rfl, by decide, rfl, Or.inl ⟨jtb1 108 rfl rfl, Or.inl rfl⟩⟩
set_option maxRecDepth 100000 in
theorem jp_7_61 (mn : String) : jflp "TwoSeek$Town" 61 6 5 mn := ⟨_, rfl, by decide, rfl, Or.inl ⟨jtb1 110 rfl rfl, Or.inl rfl⟩⟩
set_option maxRecDepth 100000 in
theorem jp_8_13 : jflp "TwoSeek$Trays" 13 7 0 "<init>" := ⟨_, rfl, by decide, rfl, Or.inl ⟨jtb1 33 rfl rfl, Or.inr ⟨rfl, rfl, rfl⟩⟩⟩
set_option maxRecDepth 100000 in
theorem jp_8_16 : jflp "TwoSeek$Trays" 16 7 1 "<init>" := ⟨_, rfl, by decide, rfl, Or.inl ⟨jtb1 34 rfl rfl, Or.inr ⟨rfl, rfl, rfl⟩⟩⟩
set_option maxRecDepth 100000 in
theorem jp_8_20 : jflp "TwoSeek$Trays" 20 7 2 "<init>" := ⟨_, rfl, by decide, rfl, Or.inl ⟨jtb1 35 rfl rfl, Or.inr ⟨rfl, rfl, rfl⟩⟩⟩
set_option maxRecDepth 100000 in
theorem jp_9_9 : jflp "TwoSeek$Walk" 9 8 3 "<init>" := ⟨_, rfl, by decide, rfl, Or.inl ⟨jtb1 207 rfl rfl, Or.inr ⟨rfl, rfl, rfl⟩⟩⟩
set_option maxRecDepth 100000 in
theorem jp_9_20 : jflp "TwoSeek$Walk" 20 8 0 "<init>" := ⟨_, rfl, by decide, rfl, Or.inl ⟨jtb1 204 rfl rfl, Or.inr ⟨rfl, rfl, rfl⟩⟩⟩
set_option maxRecDepth 100000 in
theorem jp_9_24 : jflp "TwoSeek$Walk" 24 8 1 "<init>" := ⟨_, rfl, by decide, rfl, Or.inl ⟨jtb1 205 rfl rfl, Or.inr ⟨rfl, rfl, rfl⟩⟩⟩
set_option maxRecDepth 100000 in
theorem jp_9_27 : jflp "TwoSeek$Walk" 27 8 2 "<init>" := ⟨_, rfl, by decide, rfl, Or.inl ⟨jtb1 206 rfl rfl, Or.inr ⟨rfl, rfl, rfl⟩⟩⟩
set_option maxRecDepth 100000 in
theorem jp_9_34 (mn : String) : jflp "TwoSeek$Walk" 34 9 3 mn := ⟨_, rfl, by decide, rfl, Or.inr ⟨_, jtn1 193 rfl rfl, rfl⟩⟩
set_option maxRecDepth 100000 in
theorem jp_9_75 (mn : String) : jflp "TwoSeek$Walk" 75 8 4 mn := ⟨_, rfl, by decide, rfl, Or.inl ⟨jtb1 208 rfl rfl, Or.inl rfl⟩⟩
set_option maxRecDepth 100000 in
theorem jp_9_78 (mn : String) : jflp "TwoSeek$Walk" 78 8 5 mn := ⟨_, rfl, by decide, rfl, Or.inl ⟨jtb1 210 rfl rfl, Or.inl rfl⟩⟩
set_option maxRecDepth 100000 in
theorem jp_10_7 : jflp "TwoSeek$Walker" 7 9 0 "<init>" := ⟨_, rfl, by decide, rfl, Or.inl ⟨jtb1 189 rfl rfl, Or.inr ⟨rfl, rfl, rfl⟩⟩⟩
set_option maxRecDepth 100000 in
theorem jp_10_13 (mn : String) : jflp "TwoSeek$Walker" 13 9 1 mn := ⟨_, rfl, by decide, rfl, Or.inl ⟨jtb1 190 rfl rfl, Or.inl rfl⟩⟩
set_option maxRecDepth 100000 in
theorem jp_10_17 (mn : String) : jflp "TwoSeek$Walker" 17 9 2 mn := ⟨_, rfl, by decide, rfl, Or.inl ⟨jtb1 191 rfl rfl, Or.inl rfl⟩⟩
set_option maxRecDepth 100000 in
theorem jp_10_20 (mn : String) : jflp "TwoSeek$Walker" 20 9 3 mn := ⟨_, rfl, by decide, rfl, Or.inl ⟨jtb1 192 rfl rfl, Or.inl rfl⟩⟩
set_option maxRecDepth 100000 in
theorem jp_11_11 : jflp "TwoSeek$Ways" 11 10 1 "<init>" := ⟨_, rfl, by decide, rfl, Or.inl ⟨jtb1 165 rfl rfl, Or.inr ⟨rfl, rfl, rfl⟩⟩⟩
set_option maxRecDepth 100000 in
theorem jp_11_15 : jflp "TwoSeek$Ways" 15 10 2 "<init>" := ⟨_, rfl, by decide, rfl, Or.inl ⟨jtb1 166 rfl rfl, Or.inr ⟨rfl, rfl, rfl⟩⟩⟩
set_option maxRecDepth 100000 in
theorem jp_11_19 : jflp "TwoSeek$Ways" 19 10 3 "<init>" := ⟨_, rfl, by decide, rfl, Or.inl ⟨jtb1 167 rfl rfl, Or.inr ⟨rfl, rfl, rfl⟩⟩⟩
set_option maxRecDepth 100000 in
theorem jp_11_22 (mn : String) : jflp "TwoSeek$Ways" 22 10 0 mn := ⟨_, rfl, by decide, rfl, Or.inl ⟨jtb1 163 rfl rfl, Or.inl rfl⟩⟩
set_option maxRecDepth 100000 in
theorem jp_0_9 (mn : String) : jflp "TwoSeek" 9 11 0 mn := ⟨_, rfl, by decide, rfl, Or.inl ⟨jtb2 116 rfl rfl, Or.inl rfl⟩⟩
set_option maxRecDepth 100000 in
theorem jp_0_13 (mn : String) : jflp "TwoSeek" 13 11 1 mn := ⟨_, rfl, by decide, rfl, Or.inl ⟨jtb2 117 rfl rfl, Or.inl rfl⟩⟩
set_option maxRecDepth 100000 in
theorem jp_0_17 (mn : String) : jflp "TwoSeek" 17 11 2 mn := ⟨_, rfl, by decide, rfl, Or.inl ⟨jtb2 118 rfl rfl, Or.inl rfl⟩⟩
set_option maxRecDepth 100000 in
theorem jp_0_23 : jflp "TwoSeek" 23 11 3 "<init>" := ⟨_, rfl, by decide, rfl, Or.inl ⟨jtb2 119 rfl rfl, Or.inr ⟨rfl, rfl, rfl⟩⟩⟩
set_option maxRecDepth 100000 in
theorem jp_0_30 : jflp "TwoSeek" 30 11 4 "<init>" := ⟨_, rfl, by decide, rfl, Or.inl ⟨jtb2 120 rfl rfl, Or.inr ⟨rfl, rfl, rfl⟩⟩⟩
set_option maxRecDepth 100000 in
theorem jp_0_37 (mn : String) : jflp "TwoSeek" 37 11 5 mn := ⟨_, rfl, by decide, rfl, Or.inl ⟨jtb2 121 rfl rfl, Or.inl rfl⟩⟩
set_option maxRecDepth 100000 in
theorem jp_0_41 (mn : String) : jflp "TwoSeek" 41 11 6 mn := ⟨_, rfl, by decide, rfl, Or.inl ⟨jtb2 122 rfl rfl, Or.inl rfl⟩⟩
set_option maxRecDepth 100000 in
theorem jp_0_47 : jflp "TwoSeek" 47 11 7 "<init>" := ⟨_, rfl, by decide, rfl, Or.inl ⟨jtb2 123 rfl rfl, Or.inr ⟨rfl, rfl, rfl⟩⟩⟩
set_option maxRecDepth 100000 in
theorem jp_0_56 : jflp "TwoSeek" 56 11 8 "<init>" := ⟨_, rfl, by decide, rfl, Or.inl ⟨jtb2 124 rfl rfl, Or.inr ⟨rfl, rfl, rfl⟩⟩⟩
set_option maxRecDepth 100000 in
theorem jp_0_63 : jflp "TwoSeek" 63 11 9 "<init>" := ⟨_, rfl, by decide, rfl, Or.inl ⟨jtb2 125 rfl rfl, Or.inr ⟨rfl, rfl, rfl⟩⟩⟩
set_option maxRecDepth 100000 in
theorem jp_0_75 : jflp "TwoSeek" 75 11 10 "<init>" := ⟨_, rfl, by decide, rfl, Or.inl ⟨jtb2 126 rfl rfl, Or.inr ⟨rfl, rfl, rfl⟩⟩⟩
set_option maxRecDepth 100000 in
theorem jp_0_79 : jflp "TwoSeek" 79 11 11 "<init>" := ⟨_, rfl, by decide, rfl, Or.inl ⟨jtb2 127 rfl rfl, Or.inr ⟨rfl, rfl, rfl⟩⟩⟩
set_option maxRecDepth 100000 in
theorem jp_0_85 : jflp "TwoSeek" 85 11 12 "<init>" := ⟨_, rfl, by decide, rfl, Or.inl ⟨jtb2 128 rfl rfl, Or.inr ⟨rfl, rfl, rfl⟩⟩⟩
set_option maxRecDepth 100000 in
theorem jp_0_92 : jflp "TwoSeek" 92 11 13 "<init>" := ⟨_, rfl, by decide, rfl, Or.inl ⟨jtb2 129 rfl rfl, Or.inr ⟨rfl, rfl, rfl⟩⟩⟩
set_option maxRecDepth 100000 in
theorem jp_0_195 (mn : String) : jflp "TwoSeek" 195 6 5 mn := ⟨_, rfl, by decide, rfl, Or.inr ⟨_, jtn1 112 rfl rfl, rfl⟩⟩
set_option maxRecDepth 100000 in
theorem jp_13_7 (mn : String) : jflp "TwoSeekModel" 7 12 3 mn := ⟨_, rfl, by decide, rfl, Or.inl ⟨jtb5 198 rfl rfl, Or.inl rfl⟩⟩
set_option maxRecDepth 100000 in
theorem jp_13_13 : jflp "TwoSeekModel" 13 12 4 "<init>" := ⟨_, rfl, by decide, rfl, Or.inl ⟨jtb5 199 rfl rfl, Or.inr ⟨rfl, rfl, rfl⟩⟩⟩
set_option maxRecDepth 100000 in
theorem jp_13_17 : jflp "TwoSeekModel" 17 12 5 "<init>" := ⟨_, rfl, by decide, rfl, Or.inl ⟨jtb5 200 rfl rfl, Or.inr ⟨rfl, rfl, rfl⟩⟩⟩
set_option maxRecDepth 100000 in
theorem jp_13_20 : jflp "TwoSeekModel" 20 12 6 "<init>" := ⟨_, rfl, by decide, rfl, Or.inl ⟨jtb5 201 rfl rfl, Or.inr ⟨rfl, rfl, rfl⟩⟩⟩
set_option maxRecDepth 100000 in
theorem jp_13_24 : jflp "TwoSeekModel" 24 12 7 "<init>" := ⟨_, rfl, by decide, rfl, Or.inl ⟨jtb5 202 rfl rfl, Or.inr ⟨rfl, rfl, rfl⟩⟩⟩
set_option maxRecDepth 100000 in
theorem jp_13_28 (mn : String) : jflp "TwoSeekModel" 28 12 10 mn := ⟨_, rfl, by decide, rfl, Or.inl ⟨jtb5 205 rfl rfl, Or.inl rfl⟩⟩
set_option maxRecDepth 100000 in
theorem jp_13_32 (mn : String) : jflp "TwoSeekModel" 32 12 11 mn := ⟨_, rfl, by decide, rfl, Or.inl ⟨jtb5 206 rfl rfl, Or.inl rfl⟩⟩
set_option maxRecDepth 100000 in
theorem jp_13_35 (mn : String) : jflp "TwoSeekModel" 35 12 24 mn := ⟨_, rfl, by decide, rfl, Or.inl ⟨jtb5 219 rfl rfl, Or.inl rfl⟩⟩
set_option maxRecDepth 100000 in
theorem jp_13_38 : jflp "TwoSeekModel" 38 12 31 "<init>" := ⟨_, rfl, by decide, rfl, Or.inl ⟨jtb5 226 rfl rfl, Or.inr ⟨rfl, rfl, rfl⟩⟩⟩
set_option maxRecDepth 100000 in
theorem jp_13_41 : jflp "TwoSeekModel" 41 12 32 "<init>" := ⟨_, rfl, by decide, rfl, Or.inl ⟨jtb5 227 rfl rfl, Or.inr ⟨rfl, rfl, rfl⟩⟩⟩
set_option maxRecDepth 100000 in
theorem jp_13_44 : jflp "TwoSeekModel" 44 12 33 "<init>" := ⟨_, rfl, by decide, rfl, Or.inl ⟨jtb5 228 rfl rfl, Or.inr ⟨rfl, rfl, rfl⟩⟩⟩
set_option maxRecDepth 100000 in
theorem jp_13_47 : jflp "TwoSeekModel" 47 12 34 "<init>" := ⟨_, rfl, by decide, rfl, Or.inl ⟨jtb5 229 rfl rfl, Or.inr ⟨rfl, rfl, rfl⟩⟩⟩
set_option maxRecDepth 100000 in
theorem jp_13_50 : jflp "TwoSeekModel" 50 12 35 "<init>" := ⟨_, rfl, by decide, rfl, Or.inl ⟨jtb5 230 rfl rfl, Or.inr ⟨rfl, rfl, rfl⟩⟩⟩
set_option maxRecDepth 100000 in
theorem jp_13_53 : jflp "TwoSeekModel" 53 12 36 "<init>" := ⟨_, rfl, by decide, rfl, Or.inl ⟨jtb5 231 rfl rfl, Or.inr ⟨rfl, rfl, rfl⟩⟩⟩
set_option maxRecDepth 100000 in
theorem jp_13_56 : jflp "TwoSeekModel" 56 12 37 "<init>" := ⟨_, rfl, by decide, rfl, Or.inl ⟨jtb5 232 rfl rfl, Or.inr ⟨rfl, rfl, rfl⟩⟩⟩
set_option maxRecDepth 100000 in
theorem jp_13_59 : jflp "TwoSeekModel" 59 12 38 "<init>" := ⟨_, rfl, by decide, rfl, Or.inl ⟨jtb5 233 rfl rfl, Or.inr ⟨rfl, rfl, rfl⟩⟩⟩
set_option maxRecDepth 100000 in
theorem jp_13_62 : jflp "TwoSeekModel" 62 12 39 "<init>" := ⟨_, rfl, by decide, rfl, Or.inl ⟨jtb5 234 rfl rfl, Or.inr ⟨rfl, rfl, rfl⟩⟩⟩
set_option maxRecDepth 100000 in
theorem jp_13_65 : jflp "TwoSeekModel" 65 12 40 "<init>" := ⟨_, rfl, by decide, rfl, Or.inl ⟨jtb5 235 rfl rfl, Or.inr ⟨rfl, rfl, rfl⟩⟩⟩
set_option maxRecDepth 100000 in
theorem jp_13_68 : jflp "TwoSeekModel" 68 12 41 "<init>" := ⟨_, rfl, by decide, rfl, Or.inl ⟨jtb5 236 rfl rfl, Or.inr ⟨rfl, rfl, rfl⟩⟩⟩
set_option maxRecDepth 100000 in
theorem jp_13_72 : jflp "TwoSeekModel" 72 12 42 "<init>" := ⟨_, rfl, by decide, rfl, Or.inl ⟨jtb5 237 rfl rfl, Or.inr ⟨rfl, rfl, rfl⟩⟩⟩
set_option maxRecDepth 100000 in
theorem jp_13_75 : jflp "TwoSeekModel" 75 12 44 "<init>" := ⟨_, rfl, by decide, rfl, Or.inl ⟨jtb5 239 rfl rfl, Or.inr ⟨rfl, rfl, rfl⟩⟩⟩
set_option maxRecDepth 100000 in
theorem jp_13_78 : jflp "TwoSeekModel" 78 12 45 "<init>" := ⟨_, rfl, by decide, rfl, Or.inl ⟨jtb6 0 rfl rfl, Or.inr ⟨rfl, rfl, rfl⟩⟩⟩
set_option maxRecDepth 100000 in
theorem jp_13_81 : jflp "TwoSeekModel" 81 12 46 "<init>" := ⟨_, rfl, by decide, rfl, Or.inl ⟨jtb6 1 rfl rfl, Or.inr ⟨rfl, rfl, rfl⟩⟩⟩
set_option maxRecDepth 100000 in
theorem jp_13_84 : jflp "TwoSeekModel" 84 12 47 "<init>" := ⟨_, rfl, by decide, rfl, Or.inl ⟨jtb6 2 rfl rfl, Or.inr ⟨rfl, rfl, rfl⟩⟩⟩
set_option maxRecDepth 100000 in
theorem jp_13_87 : jflp "TwoSeekModel" 87 12 48 "<init>" := ⟨_, rfl, by decide, rfl, Or.inl ⟨jtb6 3 rfl rfl, Or.inr ⟨rfl, rfl, rfl⟩⟩⟩
set_option maxRecDepth 100000 in
theorem jp_13_90 : jflp "TwoSeekModel" 90 12 49 "<init>" := ⟨_, rfl, by decide, rfl, Or.inl ⟨jtb6 4 rfl rfl, Or.inr ⟨rfl, rfl, rfl⟩⟩⟩
set_option maxRecDepth 100000 in
theorem jp_13_93 : jflp "TwoSeekModel" 93 12 50 "<init>" := ⟨_, rfl, by decide, rfl, Or.inl ⟨jtb6 5 rfl rfl, Or.inr ⟨rfl, rfl, rfl⟩⟩⟩
set_option maxRecDepth 100000 in
theorem jp_13_96 : jflp "TwoSeekModel" 96 12 51 "<init>" := ⟨_, rfl, by decide, rfl, Or.inl ⟨jtb6 6 rfl rfl, Or.inr ⟨rfl, rfl, rfl⟩⟩⟩
set_option maxRecDepth 100000 in
theorem jp_13_99 : jflp "TwoSeekModel" 99 12 55 "<init>" := ⟨_, rfl, by decide, rfl, Or.inl ⟨jtb6 10 rfl rfl, Or.inr ⟨rfl, rfl, rfl⟩⟩⟩
set_option maxRecDepth 100000 in
theorem jp_13_102 : jflp "TwoSeekModel" 102 12 56 "<init>" := ⟨_, rfl, by decide, rfl, Or.inl ⟨jtb6 11 rfl rfl, Or.inr ⟨rfl, rfl, rfl⟩⟩⟩
set_option maxRecDepth 100000 in
theorem jp_13_105 : jflp "TwoSeekModel" 105 12 57 "<init>" := ⟨_, rfl, by decide, rfl, Or.inl ⟨jtb6 12 rfl rfl, Or.inr ⟨rfl, rfl, rfl⟩⟩⟩
set_option maxRecDepth 100000 in
theorem jp_13_108 : jflp "TwoSeekModel" 108 12 58 "<init>" := ⟨_, rfl, by decide, rfl, Or.inl ⟨jtb6 13 rfl rfl, Or.inr ⟨rfl, rfl, rfl⟩⟩⟩
set_option maxRecDepth 100000 in
theorem jp_13_111 (mn : String) : jflp "TwoSeekModel" 111 12 59 mn := ⟨_, rfl, by decide, rfl, Or.inl ⟨jtb6 14 rfl rfl, Or.inl rfl⟩⟩
set_option maxRecDepth 100000 in
theorem jp_13_114 : jflp "TwoSeekModel" 114 12 62 "<init>" := ⟨_, rfl, by decide, rfl, Or.inl ⟨jtb6 17 rfl rfl, Or.inr ⟨rfl, rfl, rfl⟩⟩⟩
set_option maxRecDepth 100000 in
theorem jp_13_117 : jflp "TwoSeekModel" 117 12 65 "<init>" := ⟨_, rfl, by decide, rfl, Or.inl ⟨jtb6 20 rfl rfl, Or.inr ⟨rfl, rfl, rfl⟩⟩⟩
set_option maxRecDepth 100000 in
theorem jp_13_120 : jflp "TwoSeekModel" 120 12 66 "<init>" := ⟨_, rfl, by decide, rfl, Or.inl ⟨jtb6 21 rfl rfl, Or.inr ⟨rfl, rfl, rfl⟩⟩⟩
set_option maxRecDepth 100000 in
theorem jp_13_123 : jflp "TwoSeekModel" 123 12 67 "<init>" := ⟨_, rfl, by decide, rfl, Or.inl ⟨jtb6 22 rfl rfl, Or.inr ⟨rfl, rfl, rfl⟩⟩⟩
set_option maxRecDepth 100000 in
theorem jp_13_126 : jflp "TwoSeekModel" 126 12 68 "<init>" := ⟨_, rfl, by decide, rfl, Or.inl ⟨jtb6 23 rfl rfl, Or.inr ⟨rfl, rfl, rfl⟩⟩⟩
set_option maxRecDepth 100000 in
theorem jp_13_129 : jflp "TwoSeekModel" 129 12 69 "<init>" := ⟨_, rfl, by decide, rfl, Or.inl ⟨jtb6 24 rfl rfl, Or.inr ⟨rfl, rfl, rfl⟩⟩⟩
set_option maxRecDepth 100000 in
theorem jp_13_132 : jflp "TwoSeekModel" 132 12 70 "<init>" := ⟨_, rfl, by decide, rfl, Or.inl ⟨jtb6 25 rfl rfl, Or.inr ⟨rfl, rfl, rfl⟩⟩⟩
set_option maxRecDepth 100000 in
theorem jp_13_135 : jflp "TwoSeekModel" 135 12 71 "<init>" := ⟨_, rfl, by decide, rfl, Or.inl ⟨jtb6 26 rfl rfl, Or.inr ⟨rfl, rfl, rfl⟩⟩⟩
set_option maxRecDepth 100000 in
theorem jp_13_138 : jflp "TwoSeekModel" 138 12 74 "<init>" := ⟨_, rfl, by decide, rfl, Or.inl ⟨jtb6 29 rfl rfl, Or.inr ⟨rfl, rfl, rfl⟩⟩⟩
set_option maxRecDepth 100000 in
theorem jp_13_141 : jflp "TwoSeekModel" 141 12 75 "<init>" := ⟨_, rfl, by decide, rfl, Or.inl ⟨jtb6 30 rfl rfl, Or.inr ⟨rfl, rfl, rfl⟩⟩⟩
set_option maxRecDepth 100000 in
theorem jp_13_144 (mn : String) : jflp "TwoSeekModel" 144 12 1 mn := ⟨_, rfl, by decide, rfl, Or.inl ⟨jtb5 196 rfl rfl, Or.inl rfl⟩⟩
set_option maxRecDepth 100000 in
theorem jp_13_147 (mn : String) : jflp "TwoSeekModel" 147 12 0 mn := ⟨_, rfl, by decide, rfl, Or.inl ⟨jtb5 195 rfl rfl, Or.inl rfl⟩⟩
set_option maxRecDepth 100000 in
theorem jp_13_150 (mn : String) : jflp "TwoSeekModel" 150 12 2 mn := ⟨_, rfl, by decide, rfl, Or.inl ⟨jtb5 197 rfl rfl, Or.inl rfl⟩⟩
set_option maxRecDepth 100000 in
theorem jp_13_187 (mn : String) : jflp "TwoSeekModel" 187 12 15 mn := ⟨_, rfl, by decide, rfl, Or.inl ⟨jtb5 210 rfl rfl, Or.inl rfl⟩⟩
set_option maxRecDepth 100000 in
theorem jp_13_184 (mn : String) : jflp "TwoSeekModel" 184 12 16 mn := ⟨_, rfl, by decide, rfl, Or.inl ⟨jtb5 211 rfl rfl, Or.inl rfl⟩⟩
set_option maxRecDepth 100000 in
theorem jp_13_193 (mn : String) : jflp "TwoSeekModel" 193 12 14 mn := ⟨_, rfl, by decide, rfl, Or.inl ⟨jtb5 209 rfl rfl, Or.inl rfl⟩⟩
set_option maxRecDepth 100000 in
theorem jp_13_199 (mn : String) : jflp "TwoSeekModel" 199 12 19 mn := ⟨_, rfl, by decide, rfl, Or.inl ⟨jtb5 214 rfl rfl, Or.inl rfl⟩⟩
set_option maxRecDepth 100000 in
theorem jp_13_206 (mn : String) : jflp "TwoSeekModel" 206 12 18 mn := ⟨_, rfl, by decide, rfl, Or.inl ⟨jtb5 213 rfl rfl, Or.inl rfl⟩⟩
set_option maxRecDepth 100000 in
theorem jp_13_212 (mn : String) : jflp "TwoSeekModel" 212 12 17 mn := ⟨_, rfl, by decide, rfl, Or.inl ⟨jtb5 212 rfl rfl, Or.inl rfl⟩⟩
set_option maxRecDepth 100000 in
theorem jp_13_246 (mn : String) : jflp "TwoSeekModel" 246 12 12 mn := ⟨_, rfl, by decide, rfl, Or.inl ⟨jtb5 207 rfl rfl, Or.inl rfl⟩⟩
set_option maxRecDepth 100000 in
theorem jp_13_249 (mn : String) : jflp "TwoSeekModel" 249 12 13 mn := ⟨_, rfl, by decide, rfl, Or.inl ⟨jtb5 208 rfl rfl, Or.inl rfl⟩⟩
set_option maxRecDepth 100000 in
theorem jp_13_266 (mn : String) : jflp "TwoSeekModel" 266 12 22 mn := ⟨_, rfl, by decide, rfl, Or.inl ⟨jtb5 217 rfl rfl, Or.inl rfl⟩⟩
set_option maxRecDepth 100000 in
theorem jp_13_282 (mn : String) : jflp "TwoSeekModel" 282 12 23 mn := ⟨_, rfl, by decide, rfl, Or.inl ⟨jtb5 218 rfl rfl, Or.inl rfl⟩⟩
set_option maxRecDepth 100000 in
theorem jp_13_298 (mn : String) : jflp "TwoSeekModel" 298 12 26 mn := ⟨_, rfl, by decide, rfl, Or.inl ⟨jtb5 221 rfl rfl, Or.inl rfl⟩⟩
set_option maxRecDepth 100000 in
theorem jp_13_288 (mn : String) : jflp "TwoSeekModel" 288 12 60 mn := ⟨_, rfl, by decide, rfl, Or.inl ⟨jtb6 15 rfl rfl, Or.inl rfl⟩⟩
set_option maxRecDepth 100000 in
theorem jp_13_301 (mn : String) : jflp "TwoSeekModel" 301 12 27 mn := ⟨_, rfl, by decide, rfl, Or.inl ⟨jtb5 222 rfl rfl, Or.inl rfl⟩⟩
set_option maxRecDepth 100000 in
theorem jp_13_292 (mn : String) : jflp "TwoSeekModel" 292 12 61 mn := ⟨_, rfl, by decide, rfl, Or.inl ⟨jtb6 16 rfl rfl, Or.inl rfl⟩⟩
set_option maxRecDepth 100000 in
theorem jp_13_295 (mn : String) : jflp "TwoSeekModel" 295 12 29 mn := ⟨_, rfl, by decide, rfl, Or.inl ⟨jtb5 224 rfl rfl, Or.inl rfl⟩⟩
set_option maxRecDepth 100000 in
theorem jp_13_304 (mn : String) : jflp "TwoSeekModel" 304 12 8 mn := ⟨_, rfl, by decide, rfl, Or.inl ⟨jtb5 203 rfl rfl, Or.inl rfl⟩⟩
set_option maxRecDepth 100000 in
theorem jp_13_181 (mn : String) : jflp "TwoSeekModel" 181 12 9 mn := ⟨_, rfl, by decide, rfl, Or.inl ⟨jtb5 204 rfl rfl, Or.inl rfl⟩⟩
set_option maxRecDepth 100000 in
theorem jp_13_326 (mn : String) : jflp "TwoSeekModel" 326 12 20 mn := ⟨_, rfl, by decide, rfl, Or.inl ⟨jtb5 215 rfl rfl, Or.inl rfl⟩⟩
set_option maxRecDepth 100000 in
theorem jp_13_329 (mn : String) : jflp "TwoSeekModel" 329 12 21 mn := ⟨_, rfl, by decide, rfl, Or.inl ⟨jtb5 216 rfl rfl, Or.inl rfl⟩⟩
set_option maxRecDepth 100000 in
theorem jp_13_332 (mn : String) : jflp "TwoSeekModel" 332 12 28 mn := ⟨_, rfl, by decide, rfl, Or.inl ⟨jtb5 223 rfl rfl, Or.inl rfl⟩⟩
set_option maxRecDepth 100000 in
theorem jp_13_335 (mn : String) : jflp "TwoSeekModel" 335 12 25 mn := ⟨_, rfl, by decide, rfl, Or.inl ⟨jtb5 220 rfl rfl, Or.inl rfl⟩⟩
set_option maxRecDepth 100000 in
theorem jp_13_338 (mn : String) : jflp "TwoSeekModel" 338 12 30 mn := ⟨_, rfl, by decide, rfl, Or.inl ⟨jtb5 225 rfl rfl, Or.inl rfl⟩⟩
set_option maxRecDepth 100000 in
theorem jp_13_341 (mn : String) : jflp "TwoSeekModel" 341 12 43 mn := ⟨_, rfl, by decide, rfl, Or.inl ⟨jtb5 238 rfl rfl, Or.inl rfl⟩⟩
set_option maxRecDepth 100000 in
theorem jp_13_425 (mn : String) : jflp "TwoSeekModel" 425 12 63 mn := ⟨_, rfl, by decide, rfl, Or.inl ⟨jtb6 18 rfl rfl, Or.inl rfl⟩⟩
set_option maxRecDepth 100000 in
theorem jp_13_431 (mn : String) : jflp "TwoSeekModel" 431 12 64 mn := ⟨_, rfl, by decide, rfl, Or.inl ⟨jtb6 19 rfl rfl, Or.inl rfl⟩⟩
set_option maxRecDepth 100000 in
theorem jp_13_438 (mn : String) : jflp "TwoSeekModel" 438 12 52 mn := ⟨_, rfl, by decide, rfl, Or.inl ⟨jtb6 7 rfl rfl, Or.inl rfl⟩⟩
set_option maxRecDepth 100000 in
theorem jp_13_441 (mn : String) : jflp "TwoSeekModel" 441 12 53 mn := ⟨_, rfl, by decide, rfl, Or.inl ⟨jtb6 8 rfl rfl, Or.inl rfl⟩⟩
set_option maxRecDepth 100000 in
theorem jp_13_480 (mn : String) : jflp "TwoSeekModel" 480 12 76 mn := ⟨_, rfl, by decide, rfl, Or.inl ⟨jtb6 31 rfl rfl, Or.inl rfl⟩⟩
set_option maxRecDepth 100000 in
theorem jp_13_497 (mn : String) : jflp "TwoSeekModel" 497 12 77 mn := ⟨_, rfl, by decide, rfl, Or.inl ⟨jtb6 32 rfl rfl, Or.inl rfl⟩⟩
set_option maxRecDepth 100000 in
theorem jp_13_494 (mn : String) : jflp "TwoSeekModel" 494 12 78 mn := ⟨_, rfl, by decide, rfl, Or.inl ⟨jtb6 33 rfl rfl, Or.inl rfl⟩⟩
set_option maxRecDepth 100000 in
theorem jp_13_514 (mn : String) : jflp "TwoSeekModel" 514 12 54 mn := ⟨_, rfl, by decide, rfl, Or.inl ⟨jtb6 9 rfl rfl, Or.inl rfl⟩⟩
set_option maxRecDepth 100000 in
theorem jp_13_477 (mn : String) : jflp "TwoSeekModel" 477 12 72 mn := ⟨_, rfl, by decide, rfl, Or.inl ⟨jtb6 27 rfl rfl, Or.inl rfl⟩⟩
set_option maxRecDepth 100000 in
theorem jp_13_483 (mn : String) : jflp "TwoSeekModel" 483 12 73 mn := ⟨_, rfl, by decide, rfl, Or.inl ⟨jtb6 28 rfl rfl, Or.inl rfl⟩⟩
set_option maxRecDepth 100000 in
theorem jmm_8_11 : Cond.classLink "TwoSeek$Trays" 11 ("[" ++ (FieldType.array .long).toString) ∈ jtbl := by
  rw [show ("[" ++ (FieldType.array .long).toString) = "[[J" from by decide +kernel]
  exact jtb1 31 rfl rfl
set_option maxRecDepth 100000 in
theorem jmm_4_9 : Cond.classLink "TwoSeek$Moves" 9 ("[" ++ (FieldType.array .int).toString) ∈ jtbl := by
  rw [show ("[" ++ (FieldType.array .int).toString) = "[[I" from by decide +kernel]
  exact jtb2 13 rfl rfl
set_option maxRecDepth 100000 in
theorem jmm_6_18 : Cond.classLink "TwoSeek$Rows" 18 ("[" ++ (FieldType.array .int).toString) ∈ jtbl := by
  rw [show ("[" ++ (FieldType.array .int).toString) = "[[I" from by decide +kernel]
  exact jtb2 31 rfl rfl
