section JT8
variable {d L t : Nat} {μ : jMem} {Q : jQ}
theorem sM_write {x1 x2 : Int32} {v : Int64} (hW : jWd L t μ) (hT : jTr μ) (h1 : ¬ (0 ≤ x1 ∧ x1 < 4) → Q (some (.int 0)) (sI (sI μ 133 1 0) 133 0 1)) (h3 : ∀ i, i < 4 → x1 = nI i → gI μ 9 i = -1 → Q (some (.int 0)) (sI (sI μ 133 1 0) 133 0 3))
    (h4 : ∀ i n, i < 4 → x1 = nI i → n ≤ 64 → gI μ 9 i = nI n → (x2 < 0 ∨ nI n ≤ x2) → Q (some (.int 0)) (sI (sI μ 133 1 0) 133 0 4)) (h0 : ∀ i n k, i < 4 → x1 = nI i → n ≤ 64 → gI μ 9 i = nI n → k < n → x2 = nI k → Q (some (.int 1)) (sL (sI (sI μ 133 1 0) 133 0 0) 136 (64 * i + k) (jcut (gI μ 134 i) v))) : jC (d + 2) 197 [.ref 133, .int x1, .int x2, .long v] μ Q := by
  refine e197 (b197_0 ?_)
  simp only [jx_blk, jx_op, j1i_c, j2i_c, j1l_c, j2l_c, jil_c, j1r_c, jri_c, jrii_c, jril_c, jrl_c, jrr_c, j2i'_c, jdup_i, jdup_r, jdup2_c, jdup2_l, jpo_c, jli, jll, jlr, jat_0, jat_s, jst, jst2, jkill_i, jkill_r, jkill_l, jkill_n, jnone, jgv_0, jgv_1, jgv_2, jgv_3, jrv_s, jput_0, jput_1, jput_2, jput_3, jpop_0, jpop_1, jcl_s, jc1, jc2, jvi, Nat.reduceAdd, jol_i, jol_l, jol_n, List.map_cons, List.map_nil, List.sum_cons, List.sum_nil, jcI, jcL, jcR, Nat.zero_le, true_and, and_true, and_self, Nat.reduceLeDiff, gI_sI, gI_sL, gI_sR, gL_sI, gL_sL, gL_sR, gR_sI, gR_sL, gR_sR, gS_sI, gS_sL, gS_sR, gN_sI, gN_sL, gN_sR, true_or, or_true, false_or, or_false, Nat.reduceEqDiff, false_and, and_false, if_false, if_true, reduceIte, not_true_eq_false, not_false_eq_true, true_imp_iff, false_imp_iff, jr_133_4 hW, jr_133_5 hW, jr_133_6 hW, jr_133_7 hW, jr_133_31 hW, jr_133_32 hW, jr_133_33 hW, jr_133_34 hW, jr_133_35 hW, jr_133_36 hW, jr_133_37 hW, jr_133_38 hW, jr_133_39 hW, jr_133_40 hW, jr_133_41 hW, jr_133_42 hW, jr_133_44 hW, jr_133_45 hW, jr_133_46 hW, jr_133_47 hW, jr_133_48 hW, jr_133_49 hW, jr_133_50 hW, jr_133_51 hW, jr_133_55 hW, jr_133_56 hW, jr_133_57 hW, jr_133_58 hW, jr_133_62 hW, jr_133_65 hW, jr_133_66 hW, jr_133_67 hW, jr_133_68 hW, jr_133_69 hW, jr_133_70 hW, jr_133_71 hW, jr_133_74 hW, jr_133_75 hW, hW.1, jS0_133, jS0_134, jS0_135, jS0_136, jS0_137, jS0_138, jS0_139, jS0_140, jS0_141, jS0_142, jS0_143, jS0_144, jS0_145, jS0_146, jS0_147, jS0_148, jS0_149, jS0_150, jS0_151, jS0_152, jS0_153, jS0_154, jS0_155, jS0_156, jS0_157, jS0_158, jS0_159, jS0_160, jS0_161, jS0_162, jS0_163, jS0_164, jS0_165, jS0_166, jS0_167, jS0_168, jS0_169, jS0_170, jS0_171]
  refine sM_placed (by exact jWd_sI hW) (jTr_sI (by decide) hT) (fun c => ?_) (fun i hi e1 e2 => ?_) (fun i n hi e1 hn e2 c => ?_) (fun i n k hi e1 hn e2 hk e3 => ?_)
  · repeat' (first | refine b197_24 ?_ | simp only [jx_blk, jx_op, j1i_c, j2i_c, j1l_c, j2l_c, jil_c, j1r_c, jri_c, jrii_c, jril_c, jrl_c, jrr_c, j2i'_c, jdup_i, jdup_r, jdup2_c, jdup2_l, jpo_c, jli, jll, jlr, jat_0, jat_s, jst, jst2, jkill_i, jkill_r, jkill_l, jkill_n, jnone, jgv_0, jgv_1, jgv_2, jgv_3, jrv_s, jput_0, jput_1, jput_2, jput_3, jpop_0, jpop_1, jcl_s, jc1, jc2, jvi, Nat.reduceAdd, jol_i, jol_l, jol_n, List.map_cons, List.map_nil, List.sum_cons, List.sum_nil, jcI, jcL, jcR, Nat.zero_le, true_and, and_true, and_self, Nat.reduceLeDiff, gI_sI, gI_sL, gI_sR, gL_sI, gL_sL, gL_sR, gR_sI, gR_sL, gR_sR, gS_sI, gS_sL, gS_sR, gN_sI, gN_sL, gN_sR, true_or, or_true, false_or, or_false, Nat.reduceEqDiff, false_and, and_false, if_false, if_true, reduceIte, not_true_eq_false, not_false_eq_true, true_imp_iff, false_imp_iff, jr_133_4 hW, jr_133_5 hW, jr_133_6 hW, jr_133_7 hW, jr_133_31 hW, jr_133_32 hW, jr_133_33 hW, jr_133_34 hW, jr_133_35 hW, jr_133_36 hW, jr_133_37 hW, jr_133_38 hW, jr_133_39 hW, jr_133_40 hW, jr_133_41 hW, jr_133_42 hW, jr_133_44 hW, jr_133_45 hW, jr_133_46 hW, jr_133_47 hW, jr_133_48 hW, jr_133_49 hW, jr_133_50 hW, jr_133_51 hW, jr_133_55 hW, jr_133_56 hW, jr_133_57 hW, jr_133_58 hW, jr_133_62 hW, jr_133_65 hW, jr_133_66 hW, jr_133_67 hW, jr_133_68 hW, jr_133_69 hW, jr_133_70 hW, jr_133_71 hW, jr_133_74 hW, jr_133_75 hW, hW.1, jS0_133, jS0_134, jS0_135, jS0_136, jS0_137, jS0_138, jS0_139, jS0_140, jS0_141, jS0_142, jS0_143, jS0_144, jS0_145, jS0_146, jS0_147, jS0_148, jS0_149, jS0_150, jS0_151, jS0_152, jS0_153, jS0_154, jS0_155, jS0_156, jS0_157, jS0_158, jS0_159, jS0_160, jS0_161, jS0_162, jS0_163, jS0_164, jS0_165, jS0_166, jS0_167, jS0_168, jS0_169, jS0_170, jS0_171, show ((1 : Int32) ≤ 0) = False from by decide] | refine br_c (fun _ => ?_) (fun _ => ?_) | refine And.intro ?_ ?_)
    exact h1 c
  · repeat' (first | refine b197_24 ?_ | simp only [jx_blk, jx_op, j1i_c, j2i_c, j1l_c, j2l_c, jil_c, j1r_c, jri_c, jrii_c, jril_c, jrl_c, jrr_c, j2i'_c, jdup_i, jdup_r, jdup2_c, jdup2_l, jpo_c, jli, jll, jlr, jat_0, jat_s, jst, jst2, jkill_i, jkill_r, jkill_l, jkill_n, jnone, jgv_0, jgv_1, jgv_2, jgv_3, jrv_s, jput_0, jput_1, jput_2, jput_3, jpop_0, jpop_1, jcl_s, jc1, jc2, jvi, Nat.reduceAdd, jol_i, jol_l, jol_n, List.map_cons, List.map_nil, List.sum_cons, List.sum_nil, jcI, jcL, jcR, Nat.zero_le, true_and, and_true, and_self, Nat.reduceLeDiff, gI_sI, gI_sL, gI_sR, gL_sI, gL_sL, gL_sR, gR_sI, gR_sL, gR_sR, gS_sI, gS_sL, gS_sR, gN_sI, gN_sL, gN_sR, true_or, or_true, false_or, or_false, Nat.reduceEqDiff, false_and, and_false, if_false, if_true, reduceIte, not_true_eq_false, not_false_eq_true, true_imp_iff, false_imp_iff, jr_133_4 hW, jr_133_5 hW, jr_133_6 hW, jr_133_7 hW, jr_133_31 hW, jr_133_32 hW, jr_133_33 hW, jr_133_34 hW, jr_133_35 hW, jr_133_36 hW, jr_133_37 hW, jr_133_38 hW, jr_133_39 hW, jr_133_40 hW, jr_133_41 hW, jr_133_42 hW, jr_133_44 hW, jr_133_45 hW, jr_133_46 hW, jr_133_47 hW, jr_133_48 hW, jr_133_49 hW, jr_133_50 hW, jr_133_51 hW, jr_133_55 hW, jr_133_56 hW, jr_133_57 hW, jr_133_58 hW, jr_133_62 hW, jr_133_65 hW, jr_133_66 hW, jr_133_67 hW, jr_133_68 hW, jr_133_69 hW, jr_133_70 hW, jr_133_71 hW, jr_133_74 hW, jr_133_75 hW, hW.1, jS0_133, jS0_134, jS0_135, jS0_136, jS0_137, jS0_138, jS0_139, jS0_140, jS0_141, jS0_142, jS0_143, jS0_144, jS0_145, jS0_146, jS0_147, jS0_148, jS0_149, jS0_150, jS0_151, jS0_152, jS0_153, jS0_154, jS0_155, jS0_156, jS0_157, jS0_158, jS0_159, jS0_160, jS0_161, jS0_162, jS0_163, jS0_164, jS0_165, jS0_166, jS0_167, jS0_168, jS0_169, jS0_170, jS0_171, show ((3 : Int32) ≤ 0) = False from by decide] | refine br_c (fun _ => ?_) (fun _ => ?_) | refine And.intro ?_ ?_)
    exact h3 i hi e1 e2
  · repeat' (first | refine b197_24 ?_ | simp only [jx_blk, jx_op, j1i_c, j2i_c, j1l_c, j2l_c, jil_c, j1r_c, jri_c, jrii_c, jril_c, jrl_c, jrr_c, j2i'_c, jdup_i, jdup_r, jdup2_c, jdup2_l, jpo_c, jli, jll, jlr, jat_0, jat_s, jst, jst2, jkill_i, jkill_r, jkill_l, jkill_n, jnone, jgv_0, jgv_1, jgv_2, jgv_3, jrv_s, jput_0, jput_1, jput_2, jput_3, jpop_0, jpop_1, jcl_s, jc1, jc2, jvi, Nat.reduceAdd, jol_i, jol_l, jol_n, List.map_cons, List.map_nil, List.sum_cons, List.sum_nil, jcI, jcL, jcR, Nat.zero_le, true_and, and_true, and_self, Nat.reduceLeDiff, gI_sI, gI_sL, gI_sR, gL_sI, gL_sL, gL_sR, gR_sI, gR_sL, gR_sR, gS_sI, gS_sL, gS_sR, gN_sI, gN_sL, gN_sR, true_or, or_true, false_or, or_false, Nat.reduceEqDiff, false_and, and_false, if_false, if_true, reduceIte, not_true_eq_false, not_false_eq_true, true_imp_iff, false_imp_iff, jr_133_4 hW, jr_133_5 hW, jr_133_6 hW, jr_133_7 hW, jr_133_31 hW, jr_133_32 hW, jr_133_33 hW, jr_133_34 hW, jr_133_35 hW, jr_133_36 hW, jr_133_37 hW, jr_133_38 hW, jr_133_39 hW, jr_133_40 hW, jr_133_41 hW, jr_133_42 hW, jr_133_44 hW, jr_133_45 hW, jr_133_46 hW, jr_133_47 hW, jr_133_48 hW, jr_133_49 hW, jr_133_50 hW, jr_133_51 hW, jr_133_55 hW, jr_133_56 hW, jr_133_57 hW, jr_133_58 hW, jr_133_62 hW, jr_133_65 hW, jr_133_66 hW, jr_133_67 hW, jr_133_68 hW, jr_133_69 hW, jr_133_70 hW, jr_133_71 hW, jr_133_74 hW, jr_133_75 hW, hW.1, jS0_133, jS0_134, jS0_135, jS0_136, jS0_137, jS0_138, jS0_139, jS0_140, jS0_141, jS0_142, jS0_143, jS0_144, jS0_145, jS0_146, jS0_147, jS0_148, jS0_149, jS0_150, jS0_151, jS0_152, jS0_153, jS0_154, jS0_155, jS0_156, jS0_157, jS0_158, jS0_159, jS0_160, jS0_161, jS0_162, jS0_163, jS0_164, jS0_165, jS0_166, jS0_167, jS0_168, jS0_169, jS0_170, jS0_171, show ((4 : Int32) ≤ 0) = False from by decide] | refine br_c (fun _ => ?_) (fun _ => ?_) | refine And.intro ?_ ?_)
    exact h4 i n hi e1 hn e2 c
  · subst e1
    subst e3
    have f1 := jcl_n (k := i) (by omega)
    have f2 : vp_in (nI i) 4 := vp_in_nI (by omega) (by omega)
    have f3 := jcl_n (k := 64 * i + k) (by omega)
    have f4 : vp_in (nI (64 * i + k)) 256 := vp_in_nI (by omega) (by omega)
    repeat' (first | refine b197_24 ?_ | refine sM_cut ?_ | simp only [jx_blk, jx_op, j1i_c, j2i_c, j1l_c, j2l_c, jil_c, j1r_c, jri_c, jrii_c, jril_c, jrl_c, jrr_c, j2i'_c, jdup_i, jdup_r, jdup2_c, jdup2_l, jpo_c, jli, jll, jlr, jat_0, jat_s, jst, jst2, jkill_i, jkill_r, jkill_l, jkill_n, jnone, jgv_0, jgv_1, jgv_2, jgv_3, jrv_s, jput_0, jput_1, jput_2, jput_3, jpop_0, jpop_1, jcl_s, jc1, jc2, jvi, Nat.reduceAdd, jol_i, jol_l, jol_n, List.map_cons, List.map_nil, List.sum_cons, List.sum_nil, jcI, jcL, jcR, Nat.zero_le, true_and, and_true, and_self, Nat.reduceLeDiff, gI_sI, gI_sL, gI_sR, gL_sI, gL_sL, gL_sR, gR_sI, gR_sL, gR_sR, gS_sI, gS_sL, gS_sR, gN_sI, gN_sL, gN_sR, true_or, or_true, false_or, or_false, Nat.reduceEqDiff, false_and, and_false, if_false, if_true, reduceIte, not_true_eq_false, not_false_eq_true, true_imp_iff, false_imp_iff, jr_133_4 hW, jr_133_5 hW, jr_133_6 hW, jr_133_7 hW, jr_133_31 hW, jr_133_32 hW, jr_133_33 hW, jr_133_34 hW, jr_133_35 hW, jr_133_36 hW, jr_133_37 hW, jr_133_38 hW, jr_133_39 hW, jr_133_40 hW, jr_133_41 hW, jr_133_42 hW, jr_133_44 hW, jr_133_45 hW, jr_133_46 hW, jr_133_47 hW, jr_133_48 hW, jr_133_49 hW, jr_133_50 hW, jr_133_51 hW, jr_133_55 hW, jr_133_56 hW, jr_133_57 hW, jr_133_58 hW, jr_133_62 hW, jr_133_65 hW, jr_133_66 hW, jr_133_67 hW, jr_133_68 hW, jr_133_69 hW, jr_133_70 hW, jr_133_71 hW, jr_133_74 hW, jr_133_75 hW, hW.1, jS0_133, jS0_134, jS0_135, jS0_136, jS0_137, jS0_138, jS0_139, jS0_140, jS0_141, jS0_142, jS0_143, jS0_144, jS0_145, jS0_146, jS0_147, jS0_148, jS0_149, jS0_150, jS0_151, jS0_152, jS0_153, jS0_154, jS0_155, jS0_156, jS0_157, jS0_158, jS0_159, jS0_160, jS0_161, jS0_162, jS0_163, jS0_164, jS0_165, jS0_166, jS0_167, jS0_168, jS0_169, jS0_170, jS0_171, show ((0 : Int32) ≤ 0) = True from by decide, li_64, pk_mul, nI_add, f1, f2, f3, f4] | refine br_c (fun _ => ?_) (fun _ => ?_) | refine And.intro ?_ ?_)
    exact h0 i n k hi rfl hn e2 hk rfl
theorem sM_read {x1 x2 : Int32} (hW : jWd L t μ) (hT : jTr μ) (h1 : ¬ (0 ≤ x1 ∧ x1 < 4) → Q (some (.long (-1))) (sI (sI μ 133 1 0) 133 0 1)) (h3 : ∀ i, i < 4 → x1 = nI i → gI μ 9 i = -1 → Q (some (.long (-1))) (sI (sI μ 133 1 0) 133 0 3))
    (h4 : ∀ i n, i < 4 → x1 = nI i → n ≤ 64 → gI μ 9 i = nI n → (x2 < 0 ∨ nI n ≤ x2) → Q (some (.long (-1))) (sI (sI μ 133 1 0) 133 0 4)) (h0 : ∀ i n k, i < 4 → x1 = nI i → n ≤ 64 → gI μ 9 i = nI n → k < n → x2 = nI k → Q (some (.long (gL μ 136 (64 * i + k)))) (sI (sI μ 133 1 0) 133 0 0)) : jC (d + 2) 198 [.ref 133, .int x1, .int x2] μ Q := by
  refine e198 (b198_0 ?_)
  simp only [jx_blk, jx_op, j1i_c, j2i_c, j1l_c, j2l_c, jil_c, j1r_c, jri_c, jrii_c, jril_c, jrl_c, jrr_c, j2i'_c, jdup_i, jdup_r, jdup2_c, jdup2_l, jpo_c, jli, jll, jlr, jat_0, jat_s, jst, jst2, jkill_i, jkill_r, jkill_l, jkill_n, jnone, jgv_0, jgv_1, jgv_2, jgv_3, jrv_s, jput_0, jput_1, jput_2, jput_3, jpop_0, jpop_1, jcl_s, jc1, jc2, jvi, Nat.reduceAdd, jol_i, jol_l, jol_n, List.map_cons, List.map_nil, List.sum_cons, List.sum_nil, jcI, jcL, jcR, Nat.zero_le, true_and, and_true, and_self, Nat.reduceLeDiff, gI_sI, gI_sL, gI_sR, gL_sI, gL_sL, gL_sR, gR_sI, gR_sL, gR_sR, gS_sI, gS_sL, gS_sR, gN_sI, gN_sL, gN_sR, true_or, or_true, false_or, or_false, Nat.reduceEqDiff, false_and, and_false, if_false, if_true, reduceIte, not_true_eq_false, not_false_eq_true, true_imp_iff, false_imp_iff, jr_133_4 hW, jr_133_5 hW, jr_133_6 hW, jr_133_7 hW, jr_133_31 hW, jr_133_32 hW, jr_133_33 hW, jr_133_34 hW, jr_133_35 hW, jr_133_36 hW, jr_133_37 hW, jr_133_38 hW, jr_133_39 hW, jr_133_40 hW, jr_133_41 hW, jr_133_42 hW, jr_133_44 hW, jr_133_45 hW, jr_133_46 hW, jr_133_47 hW, jr_133_48 hW, jr_133_49 hW, jr_133_50 hW, jr_133_51 hW, jr_133_55 hW, jr_133_56 hW, jr_133_57 hW, jr_133_58 hW, jr_133_62 hW, jr_133_65 hW, jr_133_66 hW, jr_133_67 hW, jr_133_68 hW, jr_133_69 hW, jr_133_70 hW, jr_133_71 hW, jr_133_74 hW, jr_133_75 hW, hW.1, jS0_133, jS0_134, jS0_135, jS0_136, jS0_137, jS0_138, jS0_139, jS0_140, jS0_141, jS0_142, jS0_143, jS0_144, jS0_145, jS0_146, jS0_147, jS0_148, jS0_149, jS0_150, jS0_151, jS0_152, jS0_153, jS0_154, jS0_155, jS0_156, jS0_157, jS0_158, jS0_159, jS0_160, jS0_161, jS0_162, jS0_163, jS0_164, jS0_165, jS0_166, jS0_167, jS0_168, jS0_169, jS0_170, jS0_171]
  refine sM_placed (by exact jWd_sI hW) (jTr_sI (by decide) hT) (fun c => ?_) (fun i hi e1 e2 => ?_) (fun i n hi e1 hn e2 c => ?_) (fun i n k hi e1 hn e2 hk e3 => ?_)
  · repeat' (first | refine b198_28 ?_ | refine b198_39 ?_ | simp only [jx_blk, jx_op, j1i_c, j2i_c, j1l_c, j2l_c, jil_c, j1r_c, jri_c, jrii_c, jril_c, jrl_c, jrr_c, j2i'_c, jdup_i, jdup_r, jdup2_c, jdup2_l, jpo_c, jli, jll, jlr, jat_0, jat_s, jst, jst2, jkill_i, jkill_r, jkill_l, jkill_n, jnone, jgv_0, jgv_1, jgv_2, jgv_3, jrv_s, jput_0, jput_1, jput_2, jput_3, jpop_0, jpop_1, jcl_s, jc1, jc2, jvi, Nat.reduceAdd, jol_i, jol_l, jol_n, List.map_cons, List.map_nil, List.sum_cons, List.sum_nil, jcI, jcL, jcR, Nat.zero_le, true_and, and_true, and_self, Nat.reduceLeDiff, gI_sI, gI_sL, gI_sR, gL_sI, gL_sL, gL_sR, gR_sI, gR_sL, gR_sR, gS_sI, gS_sL, gS_sR, gN_sI, gN_sL, gN_sR, true_or, or_true, false_or, or_false, Nat.reduceEqDiff, false_and, and_false, if_false, if_true, reduceIte, not_true_eq_false, not_false_eq_true, true_imp_iff, false_imp_iff, jr_133_4 hW, jr_133_5 hW, jr_133_6 hW, jr_133_7 hW, jr_133_31 hW, jr_133_32 hW, jr_133_33 hW, jr_133_34 hW, jr_133_35 hW, jr_133_36 hW, jr_133_37 hW, jr_133_38 hW, jr_133_39 hW, jr_133_40 hW, jr_133_41 hW, jr_133_42 hW, jr_133_44 hW, jr_133_45 hW, jr_133_46 hW, jr_133_47 hW, jr_133_48 hW, jr_133_49 hW, jr_133_50 hW, jr_133_51 hW, jr_133_55 hW, jr_133_56 hW, jr_133_57 hW, jr_133_58 hW, jr_133_62 hW, jr_133_65 hW, jr_133_66 hW, jr_133_67 hW, jr_133_68 hW, jr_133_69 hW, jr_133_70 hW, jr_133_71 hW, jr_133_74 hW, jr_133_75 hW, hW.1, jS0_133, jS0_134, jS0_135, jS0_136, jS0_137, jS0_138, jS0_139, jS0_140, jS0_141, jS0_142, jS0_143, jS0_144, jS0_145, jS0_146, jS0_147, jS0_148, jS0_149, jS0_150, jS0_151, jS0_152, jS0_153, jS0_154, jS0_155, jS0_156, jS0_157, jS0_158, jS0_159, jS0_160, jS0_161, jS0_162, jS0_163, jS0_164, jS0_165, jS0_166, jS0_167, jS0_168, jS0_169, jS0_170, jS0_171, show ((1 : Int32) ≤ 0) = False from by decide] | refine br_c (fun _ => ?_) (fun _ => ?_) | refine And.intro ?_ ?_)
    exact h1 c
  · repeat' (first | refine b198_28 ?_ | refine b198_39 ?_ | simp only [jx_blk, jx_op, j1i_c, j2i_c, j1l_c, j2l_c, jil_c, j1r_c, jri_c, jrii_c, jril_c, jrl_c, jrr_c, j2i'_c, jdup_i, jdup_r, jdup2_c, jdup2_l, jpo_c, jli, jll, jlr, jat_0, jat_s, jst, jst2, jkill_i, jkill_r, jkill_l, jkill_n, jnone, jgv_0, jgv_1, jgv_2, jgv_3, jrv_s, jput_0, jput_1, jput_2, jput_3, jpop_0, jpop_1, jcl_s, jc1, jc2, jvi, Nat.reduceAdd, jol_i, jol_l, jol_n, List.map_cons, List.map_nil, List.sum_cons, List.sum_nil, jcI, jcL, jcR, Nat.zero_le, true_and, and_true, and_self, Nat.reduceLeDiff, gI_sI, gI_sL, gI_sR, gL_sI, gL_sL, gL_sR, gR_sI, gR_sL, gR_sR, gS_sI, gS_sL, gS_sR, gN_sI, gN_sL, gN_sR, true_or, or_true, false_or, or_false, Nat.reduceEqDiff, false_and, and_false, if_false, if_true, reduceIte, not_true_eq_false, not_false_eq_true, true_imp_iff, false_imp_iff, jr_133_4 hW, jr_133_5 hW, jr_133_6 hW, jr_133_7 hW, jr_133_31 hW, jr_133_32 hW, jr_133_33 hW, jr_133_34 hW, jr_133_35 hW, jr_133_36 hW, jr_133_37 hW, jr_133_38 hW, jr_133_39 hW, jr_133_40 hW, jr_133_41 hW, jr_133_42 hW, jr_133_44 hW, jr_133_45 hW, jr_133_46 hW, jr_133_47 hW, jr_133_48 hW, jr_133_49 hW, jr_133_50 hW, jr_133_51 hW, jr_133_55 hW, jr_133_56 hW, jr_133_57 hW, jr_133_58 hW, jr_133_62 hW, jr_133_65 hW, jr_133_66 hW, jr_133_67 hW, jr_133_68 hW, jr_133_69 hW, jr_133_70 hW, jr_133_71 hW, jr_133_74 hW, jr_133_75 hW, hW.1, jS0_133, jS0_134, jS0_135, jS0_136, jS0_137, jS0_138, jS0_139, jS0_140, jS0_141, jS0_142, jS0_143, jS0_144, jS0_145, jS0_146, jS0_147, jS0_148, jS0_149, jS0_150, jS0_151, jS0_152, jS0_153, jS0_154, jS0_155, jS0_156, jS0_157, jS0_158, jS0_159, jS0_160, jS0_161, jS0_162, jS0_163, jS0_164, jS0_165, jS0_166, jS0_167, jS0_168, jS0_169, jS0_170, jS0_171, show ((3 : Int32) ≤ 0) = False from by decide] | refine br_c (fun _ => ?_) (fun _ => ?_) | refine And.intro ?_ ?_)
    exact h3 i hi e1 e2
  · repeat' (first | refine b198_28 ?_ | refine b198_39 ?_ | simp only [jx_blk, jx_op, j1i_c, j2i_c, j1l_c, j2l_c, jil_c, j1r_c, jri_c, jrii_c, jril_c, jrl_c, jrr_c, j2i'_c, jdup_i, jdup_r, jdup2_c, jdup2_l, jpo_c, jli, jll, jlr, jat_0, jat_s, jst, jst2, jkill_i, jkill_r, jkill_l, jkill_n, jnone, jgv_0, jgv_1, jgv_2, jgv_3, jrv_s, jput_0, jput_1, jput_2, jput_3, jpop_0, jpop_1, jcl_s, jc1, jc2, jvi, Nat.reduceAdd, jol_i, jol_l, jol_n, List.map_cons, List.map_nil, List.sum_cons, List.sum_nil, jcI, jcL, jcR, Nat.zero_le, true_and, and_true, and_self, Nat.reduceLeDiff, gI_sI, gI_sL, gI_sR, gL_sI, gL_sL, gL_sR, gR_sI, gR_sL, gR_sR, gS_sI, gS_sL, gS_sR, gN_sI, gN_sL, gN_sR, true_or, or_true, false_or, or_false, Nat.reduceEqDiff, false_and, and_false, if_false, if_true, reduceIte, not_true_eq_false, not_false_eq_true, true_imp_iff, false_imp_iff, jr_133_4 hW, jr_133_5 hW, jr_133_6 hW, jr_133_7 hW, jr_133_31 hW, jr_133_32 hW, jr_133_33 hW, jr_133_34 hW, jr_133_35 hW, jr_133_36 hW, jr_133_37 hW, jr_133_38 hW, jr_133_39 hW, jr_133_40 hW, jr_133_41 hW, jr_133_42 hW, jr_133_44 hW, jr_133_45 hW, jr_133_46 hW, jr_133_47 hW, jr_133_48 hW, jr_133_49 hW, jr_133_50 hW, jr_133_51 hW, jr_133_55 hW, jr_133_56 hW, jr_133_57 hW, jr_133_58 hW, jr_133_62 hW, jr_133_65 hW, jr_133_66 hW, jr_133_67 hW, jr_133_68 hW, jr_133_69 hW, jr_133_70 hW, jr_133_71 hW, jr_133_74 hW, jr_133_75 hW, hW.1, jS0_133, jS0_134, jS0_135, jS0_136, jS0_137, jS0_138, jS0_139, jS0_140, jS0_141, jS0_142, jS0_143, jS0_144, jS0_145, jS0_146, jS0_147, jS0_148, jS0_149, jS0_150, jS0_151, jS0_152, jS0_153, jS0_154, jS0_155, jS0_156, jS0_157, jS0_158, jS0_159, jS0_160, jS0_161, jS0_162, jS0_163, jS0_164, jS0_165, jS0_166, jS0_167, jS0_168, jS0_169, jS0_170, jS0_171, show ((4 : Int32) ≤ 0) = False from by decide] | refine br_c (fun _ => ?_) (fun _ => ?_) | refine And.intro ?_ ?_)
    exact h4 i n hi e1 hn e2 c
  · subst e1
    subst e3
    have f3 := jcl_n (k := 64 * i + k) (by omega)
    have f4 : vp_in (nI (64 * i + k)) 256 := vp_in_nI (by omega) (by omega)
    repeat' (first | refine b198_28 ?_ | refine b198_39 ?_ | simp only [jx_blk, jx_op, j1i_c, j2i_c, j1l_c, j2l_c, jil_c, j1r_c, jri_c, jrii_c, jril_c, jrl_c, jrr_c, j2i'_c, jdup_i, jdup_r, jdup2_c, jdup2_l, jpo_c, jli, jll, jlr, jat_0, jat_s, jst, jst2, jkill_i, jkill_r, jkill_l, jkill_n, jnone, jgv_0, jgv_1, jgv_2, jgv_3, jrv_s, jput_0, jput_1, jput_2, jput_3, jpop_0, jpop_1, jcl_s, jc1, jc2, jvi, Nat.reduceAdd, jol_i, jol_l, jol_n, List.map_cons, List.map_nil, List.sum_cons, List.sum_nil, jcI, jcL, jcR, Nat.zero_le, true_and, and_true, and_self, Nat.reduceLeDiff, gI_sI, gI_sL, gI_sR, gL_sI, gL_sL, gL_sR, gR_sI, gR_sL, gR_sR, gS_sI, gS_sL, gS_sR, gN_sI, gN_sL, gN_sR, true_or, or_true, false_or, or_false, Nat.reduceEqDiff, false_and, and_false, if_false, if_true, reduceIte, not_true_eq_false, not_false_eq_true, true_imp_iff, false_imp_iff, jr_133_4 hW, jr_133_5 hW, jr_133_6 hW, jr_133_7 hW, jr_133_31 hW, jr_133_32 hW, jr_133_33 hW, jr_133_34 hW, jr_133_35 hW, jr_133_36 hW, jr_133_37 hW, jr_133_38 hW, jr_133_39 hW, jr_133_40 hW, jr_133_41 hW, jr_133_42 hW, jr_133_44 hW, jr_133_45 hW, jr_133_46 hW, jr_133_47 hW, jr_133_48 hW, jr_133_49 hW, jr_133_50 hW, jr_133_51 hW, jr_133_55 hW, jr_133_56 hW, jr_133_57 hW, jr_133_58 hW, jr_133_62 hW, jr_133_65 hW, jr_133_66 hW, jr_133_67 hW, jr_133_68 hW, jr_133_69 hW, jr_133_70 hW, jr_133_71 hW, jr_133_74 hW, jr_133_75 hW, hW.1, jS0_133, jS0_134, jS0_135, jS0_136, jS0_137, jS0_138, jS0_139, jS0_140, jS0_141, jS0_142, jS0_143, jS0_144, jS0_145, jS0_146, jS0_147, jS0_148, jS0_149, jS0_150, jS0_151, jS0_152, jS0_153, jS0_154, jS0_155, jS0_156, jS0_157, jS0_158, jS0_159, jS0_160, jS0_161, jS0_162, jS0_163, jS0_164, jS0_165, jS0_166, jS0_167, jS0_168, jS0_169, jS0_170, jS0_171, show ((0 : Int32) ≤ 0) = True from by decide, li_64, pk_mul, nI_add, f3, f4] | refine br_c (fun _ => ?_) (fun _ => ?_) | refine And.intro ?_ ?_)
    exact h0 i n k hi rfl hn e2 hk rfl
/-- a refused or answered call that changed the statuses alone: the reference sets its own once -/
theorem jref1 {w : Int32} (hW : jWd L t μ) (hS : jSt μ) (hT : jTr μ) (hO : jOth t μ) : jInv L (sI (sI (sI μ 1 0 w) 133 1 0) 133 0 w) :=
  ⟨t, hW, ⟨by simp [gI_sI], hS.2⟩, jTr_sI (by decide) (jTr_sI (by decide) (jTr_sI (by decide) hT)), jOth_sI rfl (jOth_sI rfl (jOth_sI rfl hO))⟩
theorem R_read (x1 x2 : Int32) (h : jInv L μ) : jRel 999 144 198 [.int x1, .int x2] jInv L true μ := by
  obtain ⟨t, hW, hS, hT, hO⟩ := h
  have hT2 : ∀ w, jTr (sI μ 1 0 w) := fun w => jTr_sI (by decide) hT
  have g9 : ∀ w i, gI (sI μ 1 0 w) 9 i = gI μ 9 i := fun w i => by rw [gI_sI, if_neg (by omega)]
  refine sX_read hW hT (fun c => ?_) (fun i hi e1 e2 => ?_) (fun i n hi e1 hn e2 c => ?_) (fun i n k hi e1 hn e2 hk e3 => ?_)
  · refine ⟨⟨_, rfl⟩, jg0 (by decide) 0, fun _ => rfl, sM_read (t := t) hW (hT2 _) (fun _ => ⟨rfl, jref1 hW hS hT hO⟩) ?_ ?_ ?_⟩
    · intro i hi e; exact absurd (by rw [e]; exact jtr_n hi) c
    · intro i n hi e; exact absurd (by rw [e]; exact jtr_n hi) c
    · intro i n k hi e; exact absurd (by rw [e]; exact jtr_n hi) c
  · refine ⟨⟨_, rfl⟩, jg0 (by decide) 0, fun _ => rfl, sM_read (t := t) hW (hT2 _) (fun c => absurd (by rw [e1]; exact jtr_n hi) c) (fun _ _ _ _ => ⟨rfl, jref1 hW hS hT hO⟩) ?_ ?_⟩
    · intro i2 n2 hi2 e12 hn2 e22
      have ei : i2 = i := (nI_eq (by omega) (by omega)).mp (e12.symm.trans e1)
      subst ei
      rw [g9, e2] at e22
      exact absurd (e22 ▸ nI_pos' (n := n2) (by omega)) (of_eq_false jm1_ge)
    · intro i2 n2 k2 hi2 e12 hn2 e22
      have ei : i2 = i := (nI_eq (by omega) (by omega)).mp (e12.symm.trans e1)
      subst ei
      rw [g9, e2] at e22
      exact absurd (e22 ▸ nI_pos' (n := n2) (by omega)) (of_eq_false jm1_ge)
  · refine ⟨⟨_, rfl⟩, jg0 (by decide) 0, fun _ => rfl, sM_read (t := t) hW (hT2 _) (fun c => absurd (by rw [e1]; exact jtr_n hi) c) ?_ (fun _ _ _ _ _ _ _ => ⟨rfl, jref1 hW hS hT hO⟩) ?_⟩
    · intro i2 hi2 e12 e22
      have ei : i2 = i := (nI_eq (by omega) (by omega)).mp (e12.symm.trans e1)
      subst ei
      rw [g9, e2] at e22
      exact absurd (e22 ▸ nI_pos' (n := n) (by omega)) (of_eq_false jm1_ge)
    · intro i2 n2 k2 hi2 e12 hn2 e22 hk2 e32
      have ei : i2 = i := (nI_eq (by omega) (by omega)).mp (e12.symm.trans e1)
      subst ei
      rw [g9, e2] at e22
      have en : n2 = n := ((nI_eq (by omega) (by omega)).mp e22).symm
      subst en
      rw [e32] at c
      rcases c with c | c
      · exact absurd c (nI_pos (by omega))
      · exact absurd c (nI_ge hk2 (by omega))
  · refine ⟨⟨_, rfl⟩, jg0 (by decide) 0, fun _ => rfl, sM_read (t := t) hW (hT2 _) (fun c => absurd (by rw [e1]; exact jtr_n hi) c) ?_ ?_ ?_⟩
    · intro i2 hi2 e12 e22
      have ei : i2 = i := (nI_eq (by omega) (by omega)).mp (e12.symm.trans e1)
      subst ei
      rw [g9, e2] at e22
      exact absurd (e22 ▸ nI_pos' (n := n) (by omega)) (of_eq_false jm1_ge)
    · intro i2 n2 hi2 e12 hn2 e22 c
      have ei : i2 = i := (nI_eq (by omega) (by omega)).mp (e12.symm.trans e1)
      subst ei
      rw [g9, e2] at e22
      have en : n2 = n := ((nI_eq (by omega) (by omega)).mp e22).symm
      subst en
      rw [e3] at c
      rcases c with c | c
      · exact absurd c (nI_pos (by omega))
      · exact absurd c (nI_ge hk (by omega))
    · intro i2 n2 k2 hi2 e12 hn2 e22 hk2 e32
      have ei : i2 = i := (nI_eq (by omega) (by omega)).mp (e12.symm.trans e1)
      subst ei
      have ek : k2 = k := (nI_eq (by omega) (by omega)).mp (e32.symm.trans e3)
      subst ek
      refine ⟨?_, jref1 hW hS hT hO⟩
      have := ((hT i2 hi).2.2.2 k2 (by rw [e2, nI_clamp (by omega)]; exact hk)).1
      show some (Value.long (gL μ 136 (64 * i2 + k2))) = _
      rw [this]
theorem jTr_eq {μ ν : jMem} (h1 : ∀ a j, (a = 8 ∨ a = 9 ∨ a = 134 ∨ a = 135) → gI ν a j = gI μ a j) (h2 : ∀ a j, gL ν a j = gL μ a j) (h : jTr μ) : jTr ν := fun i hi => by
  obtain ⟨t1, t2, t3, t4⟩ := h i hi
  rw [h1 8 i (by simp), h1 9 i (by simp), h1 134 i (by simp), h1 135 i (by simp)]
  exact ⟨t1, t2, t3, fun k hk => by rw [h2, h2]; exact t4 k hk⟩
theorem jTr_put {i k : Nat} {w : Int64} (hi : i < 4) (hk : k < 64) (hw : jcut (gI μ 8 i) w = w) (h : jTr μ) : jTr (sL (sL μ (4 + i) k w) 136 (64 * i + k) w) := fun j hj => by
  obtain ⟨t1, t2, t3, t4⟩ := h j hj
  refine ⟨t1, t2, t3, fun m hm => ?_⟩
  have hm2 : m < (gI μ 9 j).toNatClampNeg := hm
  have hm64 : m < 64 := by
    rcases t3 with e | ⟨n, hn, e⟩
    · rw [e] at hm2; exact absurd hm2 (Nat.not_lt_zero m)
    · rw [e, nI_clamp (by omega)] at hm2; omega
  rw [gL_sL, gL_sL, gL_sL, gL_sL]
  by_cases e : j = i ∧ m = k
  · rw [if_pos ⟨rfl, by omega⟩, if_neg (by omega), if_pos (by omega)]
    refine ⟨rfl, ?_⟩
    rw [e.1]
    exact hw
  · rw [if_neg (by omega), if_neg (by omega), if_neg (by omega), if_neg (by omega)]
    exact t4 m hm2
theorem sM_write2 {x1 x2 : Int32} {v : Int64} {i n k : Nat} (hW : jWd L t μ) (e1 : x1 = nI i) (hi : i < 4) (hn : n ≤ 64) (e2 : gI μ 135 i = nI n) (hk : k < n) (e3 : x2 = nI k) (h : Q (some (.int 1)) (sL (sI (sI μ 133 1 0) 133 0 0) 136 (64 * i + k) (jcut (gI μ 134 i) v))) : jC (d + 2) 197 [.ref 133, .int x1, .int x2, .long v] μ Q := by
  subst e1
  subst e3
  refine e197 (b197_0 ?_)
  have f1 := jcl_n (k := i) (by omega)
  have f2 : vp_in (nI i) 4 := vp_in_nI (by omega) (by omega)
  have f3 := jcl_n (k := 64 * i + k) (by omega)
  have f4 : vp_in (nI (64 * i + k)) 256 := vp_in_nI (by omega) (by omega)
  have g1 := jN (nI_pos (n := n) (by omega))
  have g2 := jN (nI_pos (n := k) (by omega))
  have g3 := jP (nI_lt (a := k) (b := n) (by omega) (by omega))
  have g4 : (nI i < 4) = True := jP (jtr_n hi).2
  have g5 := jN (nI_pos (n := i) (by omega))
  have g6 := jP (nI_pos' (n := n) (by omega))
  simp only [jx_blk, jx_op, j1i_c, j2i_c, j1l_c, j2l_c, jil_c, j1r_c, jri_c, jrii_c, jril_c, jrl_c, jrr_c, j2i'_c, jdup_i, jdup_r, jdup2_c, jdup2_l, jpo_c, jli, jll, jlr, jat_0, jat_s, jst, jst2, jkill_i, jkill_r, jkill_l, jkill_n, jnone, jgv_0, jgv_1, jgv_2, jgv_3, jrv_s, jput_0, jput_1, jput_2, jput_3, jpop_0, jpop_1, jcl_s, jc1, jc2, jvi, Nat.reduceAdd, jol_i, jol_l, jol_n, List.map_cons, List.map_nil, List.sum_cons, List.sum_nil, jcI, jcL, jcR, Nat.zero_le, true_and, and_true, and_self, Nat.reduceLeDiff, gI_sI, gI_sL, gI_sR, gL_sI, gL_sL, gL_sR, gR_sI, gR_sL, gR_sR, gS_sI, gS_sL, gS_sR, gN_sI, gN_sL, gN_sR, true_or, or_true, false_or, or_false, Nat.reduceEqDiff, false_and, and_false, if_false, if_true, reduceIte, not_true_eq_false, not_false_eq_true, true_imp_iff, false_imp_iff, jr_133_4 hW, jr_133_5 hW, jr_133_6 hW, jr_133_7 hW, jr_133_31 hW, jr_133_32 hW, jr_133_33 hW, jr_133_34 hW, jr_133_35 hW, jr_133_36 hW, jr_133_37 hW, jr_133_38 hW, jr_133_39 hW, jr_133_40 hW, jr_133_41 hW, jr_133_42 hW, jr_133_44 hW, jr_133_45 hW, jr_133_46 hW, jr_133_47 hW, jr_133_48 hW, jr_133_49 hW, jr_133_50 hW, jr_133_51 hW, jr_133_55 hW, jr_133_56 hW, jr_133_57 hW, jr_133_58 hW, jr_133_62 hW, jr_133_65 hW, jr_133_66 hW, jr_133_67 hW, jr_133_68 hW, jr_133_69 hW, jr_133_70 hW, jr_133_71 hW, jr_133_74 hW, jr_133_75 hW, hW.1, jS0_133, jS0_134, jS0_135, jS0_136, jS0_137, jS0_138, jS0_139, jS0_140, jS0_141, jS0_142, jS0_143, jS0_144, jS0_145, jS0_146, jS0_147, jS0_148, jS0_149, jS0_150, jS0_151, jS0_152, jS0_153, jS0_154, jS0_155, jS0_156, jS0_157, jS0_158, jS0_159, jS0_160, jS0_161, jS0_162, jS0_163, jS0_164, jS0_165, jS0_166, jS0_167, jS0_168, jS0_169, jS0_170, jS0_171]
  repeat' (first | refine b197_24 ?_ | refine e196 (b196_0 ?_) | refine b196_14 ?_ | refine b196_28 ?_ | refine b196_32 ?_ | refine b196_33 ?_ | refine e195 (b195_0 ?_) | refine b195_9 ?_ | refine b195_13 ?_ | refine b195_26 ?_ | refine b195_27 ?_ | refine sM_cut ?_ | simp only [jx_blk, jx_op, j1i_c, j2i_c, j1l_c, j2l_c, jil_c, j1r_c, jri_c, jrii_c, jril_c, jrl_c, jrr_c, j2i'_c, jdup_i, jdup_r, jdup2_c, jdup2_l, jpo_c, jli, jll, jlr, jat_0, jat_s, jst, jst2, jkill_i, jkill_r, jkill_l, jkill_n, jnone, jgv_0, jgv_1, jgv_2, jgv_3, jrv_s, jput_0, jput_1, jput_2, jput_3, jpop_0, jpop_1, jcl_s, jc1, jc2, jvi, Nat.reduceAdd, jol_i, jol_l, jol_n, List.map_cons, List.map_nil, List.sum_cons, List.sum_nil, jcI, jcL, jcR, Nat.zero_le, true_and, and_true, and_self, Nat.reduceLeDiff, gI_sI, gI_sL, gI_sR, gL_sI, gL_sL, gL_sR, gR_sI, gR_sL, gR_sR, gS_sI, gS_sL, gS_sR, gN_sI, gN_sL, gN_sR, true_or, or_true, false_or, or_false, Nat.reduceEqDiff, false_and, and_false, if_false, if_true, reduceIte, not_true_eq_false, not_false_eq_true, true_imp_iff, false_imp_iff, jr_133_4 hW, jr_133_5 hW, jr_133_6 hW, jr_133_7 hW, jr_133_31 hW, jr_133_32 hW, jr_133_33 hW, jr_133_34 hW, jr_133_35 hW, jr_133_36 hW, jr_133_37 hW, jr_133_38 hW, jr_133_39 hW, jr_133_40 hW, jr_133_41 hW, jr_133_42 hW, jr_133_44 hW, jr_133_45 hW, jr_133_46 hW, jr_133_47 hW, jr_133_48 hW, jr_133_49 hW, jr_133_50 hW, jr_133_51 hW, jr_133_55 hW, jr_133_56 hW, jr_133_57 hW, jr_133_58 hW, jr_133_62 hW, jr_133_65 hW, jr_133_66 hW, jr_133_67 hW, jr_133_68 hW, jr_133_69 hW, jr_133_70 hW, jr_133_71 hW, jr_133_74 hW, jr_133_75 hW, hW.1, jS0_133, jS0_134, jS0_135, jS0_136, jS0_137, jS0_138, jS0_139, jS0_140, jS0_141, jS0_142, jS0_143, jS0_144, jS0_145, jS0_146, jS0_147, jS0_148, jS0_149, jS0_150, jS0_151, jS0_152, jS0_153, jS0_154, jS0_155, jS0_156, jS0_157, jS0_158, jS0_159, jS0_160, jS0_161, jS0_162, jS0_163, jS0_164, jS0_165, jS0_166, jS0_167, jS0_168, jS0_169, jS0_170, jS0_171, show ((0 : Int32) ≤ 0) = True from by decide, li_64, pk_mul, nI_add, f1, f2, f3, f4, e2, g1, g2, g3, g4, g5, g6] | refine br_c (fun _ => ?_) (fun _ => ?_) | refine And.intro ?_ ?_)
  exact h
theorem R_write (x1 x2 : Int32) (v : Int64) (h : jInv L μ) : jRel 999 143 197 [.int x1, .int x2, .long v] jInv L false μ := by
  obtain ⟨t, hW, hS, hT, hO⟩ := h
  have hT2 : ∀ w, jTr (sI μ 1 0 w) := fun w => jTr_sI (by decide) hT
  have g9 : ∀ w i, gI (sI μ 1 0 w) 9 i = gI μ 9 i := fun w i => by rw [gI_sI, if_neg (by omega)]
  refine sX_write hW hT (fun c => ?_) (fun i hi e1 e2 => ?_) (fun i n hi e1 hn e2 c => ?_) (fun i n k hi e1 hn e2 hk e3 => ?_)
  · refine ⟨⟨_, rfl⟩, jg0 (by decide) 0, fun _ => rfl, sM_write (t := t) hW (hT2 _) (fun _ => ⟨rfl, jref1 hW hS hT hO⟩) ?_ ?_ ?_⟩
    · intro i hi e; exact absurd (by rw [e]; exact jtr_n hi) c
    · intro i n hi e; exact absurd (by rw [e]; exact jtr_n hi) c
    · intro i n k hi e; exact absurd (by rw [e]; exact jtr_n hi) c
  · refine ⟨⟨_, rfl⟩, jg0 (by decide) 0, fun _ => rfl, sM_write (t := t) hW (hT2 _) (fun c => absurd (by rw [e1]; exact jtr_n hi) c) (fun _ _ _ _ => ⟨rfl, jref1 hW hS hT hO⟩) ?_ ?_⟩
    · intro i2 n2 hi2 e12 hn2 e22
      have ei : i2 = i := (nI_eq (by omega) (by omega)).mp (e12.symm.trans e1)
      subst ei
      rw [g9, e2] at e22
      exact absurd (e22 ▸ nI_pos' (n := n2) (by omega)) (of_eq_false jm1_ge)
    · intro i2 n2 k2 hi2 e12 hn2 e22
      have ei : i2 = i := (nI_eq (by omega) (by omega)).mp (e12.symm.trans e1)
      subst ei
      rw [g9, e2] at e22
      exact absurd (e22 ▸ nI_pos' (n := n2) (by omega)) (of_eq_false jm1_ge)
  · refine ⟨⟨_, rfl⟩, jg0 (by decide) 0, fun _ => rfl, sM_write (t := t) hW (hT2 _) (fun c => absurd (by rw [e1]; exact jtr_n hi) c) ?_ (fun _ _ _ _ _ _ _ => ⟨rfl, jref1 hW hS hT hO⟩) ?_⟩
    · intro i2 hi2 e12 e22
      have ei : i2 = i := (nI_eq (by omega) (by omega)).mp (e12.symm.trans e1)
      subst ei
      rw [g9, e2] at e22
      exact absurd (e22 ▸ nI_pos' (n := n) (by omega)) (of_eq_false jm1_ge)
    · intro i2 n2 k2 hi2 e12 hn2 e22 hk2 e32
      have ei : i2 = i := (nI_eq (by omega) (by omega)).mp (e12.symm.trans e1)
      subst ei
      rw [g9, e2] at e22
      have en : n2 = n := ((nI_eq (by omega) (by omega)).mp e22).symm
      subst en
      rw [e32] at c
      rcases c with c | c
      · exact absurd c (nI_pos (by omega))
      · exact absurd c (nI_ge hk2 (by omega))
  · have hWν : jWd L t (sI (sL μ (4 + i) k (jcut (gI μ 8 i) v)) 1 0 0) := hW
    have h64 : k < 64 := by omega
    have hTν : jTr (sI (sL μ (4 + i) k (jcut (gI μ 8 i) v)) 1 0 0) ∨ True := Or.inr trivial
    refine ⟨⟨_, rfl⟩, fun j => by rw [jg0 (by decide)]; rfl, fun _ => rfl, sM_write2 (t := t) (i := i) (n := n) (k := k) hWν e1 hi hn (by rw [gI_sI, if_neg (by omega), gI_sL]; exact (hT i hi).2.1.trans e2) hk e3 ⟨rfl, t, hW, ⟨by simp [gI_sI, gI_sL], ?_, ?_⟩, ?_, ?_⟩⟩
    · simp only [gL_sL, gL_sI, show ¬ (133 = 136 ∧ 2 = 64 * i + k) by omega, show ¬ (133 = 4 + i ∧ 2 = k) by omega, show ¬ (1 = 136 ∧ 1 = 64 * i + k) by omega, show ¬ (1 = 4 + i ∧ 1 = k) by omega, if_false]
      exact hS.2.1
    · simp only [gL_sL, gL_sI, show ¬ (133 = 136 ∧ 3 = 64 * i + k) by omega, show ¬ (133 = 4 + i ∧ 3 = k) by omega, show ¬ (1 = 136 ∧ 2 = 64 * i + k) by omega, show ¬ (1 = 4 + i ∧ 2 = k) by omega, if_false]
      exact hS.2.2
    · have ew : gI (sI (sL μ (4 + i) k (jcut (gI μ 8 i) v)) 1 0 0) 134 i = gI μ 8 i := by
        rw [gI_sI, if_neg (by omega), gI_sL]
        exact (hT i hi).1
      rw [ew]
      have := jTr_put (w := jcut (gI μ 8 i) v) hi h64 (jcut_idem _ _) hT
      exact jTr_eq (μ := sL (sL μ (4 + i) k (jcut (gI μ 8 i) v)) 136 (64 * i + k) (jcut (gI μ 8 i) v)) (fun a j ha => by
        rw [gI_sL, gI_sI, gI_sI, gI_sI, gI_sL, if_neg (by omega), if_neg (by omega), if_neg (by omega), gI_sL, gI_sL]) (fun a j => rfl) this
    · refine jOth_sL rfl (jOth_sI rfl (jOth_sI rfl (jOth_sI rfl (jOth_sL ?_ hO))))
      rcases (show i = 0 ∨ i = 1 ∨ i = 2 ∨ i = 3 by omega) with rfl | rfl | rfl | rfl <;> rfl
end JT8
