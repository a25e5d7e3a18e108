/-! clock, sight: the reference, and the relations -/
section JCX
variable {d L t : Nat} {μ : jMem} {Q : jQ} {T V : jT}
theorem wIn_n {m : Nat} {v : Int64} (hm : m ≤ 100) (h : wIn (nI m) v) : ∃ y, y ≤ m ∧ v = lN y := by
  obtain ⟨y, hy, rfl⟩ := pk_lOf h.1
  refine ⟨y, ?_, rfl⟩
  have h2 := h.2
  rw [nI_l (by omega)] at h2
  exact (pk_lLE hy (by omega)).mp h2
theorem wIn_iff {m : Nat} {v z : Int64} (hz : (nI m).toInt64 = z) : (0 ≤ v ∧ v ≤ z) ↔ wIn (nI m) v := by
  unfold wIn
  rw [hz, Int64.not_lt]
def wAdd (V : jT) (ln ag : Nat) (x : Nat → Nat) : jT := fun a i j => if a = 0 then wC V + 1 else if i = wC V then (if a = 1 then ln else if a = 2 then ag else x j) else V a i j
theorem wAdd_n {ln ag : Nat} {x : Nat → Nat} : wC (wAdd V ln ag x) = wC V + 1 ∧ wLn (wAdd V ln ag x) (wC V) = ln ∧ wAg (wAdd V ln ag x) (wC V) = ag ∧ (∀ k, wNu (wAdd V ln ag x) (wC V) k = x k) ∧ ∀ w, w ≠ wC V → wLn (wAdd V ln ag x) w = wLn V w ∧ wAg (wAdd V ln ag x) w = wAg V w ∧ ∀ k, wNu (wAdd V ln ag x) w k = wNu V w k := by
  refine ⟨rfl, ?_, ?_, fun k => ?_, fun w hw => ⟨?_, ?_, fun k => ?_⟩⟩
  · show (if 1 = 0 then wC V + 1 else if wC V = wC V then (if 1 = 1 then ln else if 1 = 2 then ag else x 0) else V 1 (wC V) 0) = ln
    simp
  · show (if 2 = 0 then wC V + 1 else if wC V = wC V then (if 2 = 1 then ln else if 2 = 2 then ag else x 0) else V 2 (wC V) 0) = ag
    simp
  · show (if 3 = 0 then wC V + 1 else if wC V = wC V then (if 3 = 1 then ln else if 3 = 2 then ag else x k) else V 3 (wC V) k) = x k
    simp
  · show (if 1 = 0 then wC V + 1 else if w = wC V then (if 1 = 1 then ln else if 1 = 2 then ag else x 0) else V 1 w 0) = _
    simp [hw, wLn]
  · show (if 2 = 0 then wC V + 1 else if w = wC V then (if 2 = 1 then ln else if 2 = 2 then ag else x 0) else V 2 w 0) = _
    simp [hw, wAg]
  · show (if 3 = 0 then wC V + 1 else if w = wC V then (if 3 = 1 then ln else if 3 = 2 then ag else x k) else V 3 w k) = _
    simp [hw, wNu]
theorem sM_trayed1 {x : Int32} (c : ¬ (0 ≤ x ∧ x < 4)) (h : Q (some (.int 1)) μ) : jC d 195 [.ref 133, .int x] μ Q := by
  refine e195 (b195_0 ?_)
  by_cases c1 : x < 0
  · repeat' (first | refine b195_9 ?_ | refine b195_13 ?_ | refine b195_26 ?_ | refine b195_27 ?_ | dsimp only [jb_e0, jb_ec, jb_n, jb_c, jx_op, j1i_c, j2i_c, j1l_c, j2l_c, jil_c, j1r_c, jri_c, jrii_c, jril_c, jrl_c, jrr_c, j2i'_c, jdup_i, jdup_r, jdup2_c, jdup2_l, jpo_c, jli, jll, jlr, jat_0, jat_s, jst, jst2, jkill_i, jkill_r, jkill_l, jkill_n, jnone, jgv_0, jgv_1, jgv_2, jgv_3, jrv_s, jput_0, jput_1, jput_2, jput_3, jpop_0, jpop_1, jcl_s, jc1, jc2, jvi, Nat.reduceAdd, jol_i, jol_l, jol_n, jap_n, jap_c, List.map_cons, List.map_nil, List.sum_cons, List.sum_nil, jcI, jcL, jcR, gI_sI, gI_sL, gI_sR, gL_sI, gL_sL, gL_sR, gR_sI, gR_sL, gR_sR, gS_sI, gS_sL, gS_sR, gN_sI, gN_sL, gN_sR] | simp (disch := omega) only [Nat.zero_le, true_and, and_true, and_self, Nat.reduceLeDiff, true_or, or_true, false_or, or_false, Nat.reduceEqDiff, false_and, and_false, if_false, if_true, reduceIte, not_true_eq_false, not_false_eq_true, true_imp_iff, false_imp_iff, List.map_cons, List.map_nil, List.sum_cons, List.sum_nil, jcI, jcL, jcR, Nat.reduceAdd, jrv_s, j1r_c, jap_n, jap_c, gI_sI, gL_sL, gI_sL, gL_sI, an_lt, an_le, an_eq, an_lt0, an_0le, an_0lt, an_le0, an_eq0, an_eq1, an_1lt, an_le1, an_1le, an_lt1, an_eqm, an_sub, an_sub1, an_div, an_rem, an_in, an_in0, an_in1, an_cl, an_cl0, an_cl1, nI_add, nI_1, an_1a, pk_mul, Nat.reduceMul, jz10, jz01, j00, j11, jb0, Classical.not_not, eq_self, an_ite, an_of, an_nm, nI_l, lN_add, lN_mul, lN_i, lj_2, lj_3, lj_4, lj_5, lj_6, lj_7, lj_8, lj_9, lj_10, lj_11, lj_12, lj_13, lj_14, lj_15, lj_16, lj_17, lj_18, lj_19, lj_20, lj_21, lj_22, lj_23, lj_24, lj_25, lj_26, lj_27, lj_28, lj_29, lj_30, lj_31, lj_32, lj_33, lj_34, lj_35, lj_36, lj_37, lj_38, lj_39, lj_40, lj_48, lj_50, lj_57, lj_59, lj_60, lj_63, lj_64, lj_65, lj_90, lj_96, lj_97, lj_99, lj_100, lj_101, lj_105, lj_112, lj_114, lj_116, lj_119, lj_122, lj_128, lj_200, lj_255, lj_256, lj_500, lj_777, lj_1000, c1] | (refine br_c (fun _ => ?_) (fun _ => ?_) <;> try (exfalso; omega)) | (refine br_d (fun _ => ?_) (fun _ => ?_) <;> try (exfalso; omega)) | refine And.intro ?_ ?_ | (refine Nat.ne_of_gt ?_; omega))
    all_goals exact h
  · have c2 : ¬ x < nI 4 := fun z => c ⟨by clear h z; grind, z⟩
    repeat' (first | refine b195_9 ?_ | refine b195_26 ?_ | refine b195_27 ?_ | dsimp only [jb_e0, jb_ec, jb_n, jb_c, jx_op, j1i_c, j2i_c, j1l_c, j2l_c, jil_c, j1r_c, jri_c, jrii_c, jril_c, jrl_c, jrr_c, j2i'_c, jdup_i, jdup_r, jdup2_c, jdup2_l, jpo_c, jli, jll, jlr, jat_0, jat_s, jst, jst2, jkill_i, jkill_r, jkill_l, jkill_n, jnone, jgv_0, jgv_1, jgv_2, jgv_3, jrv_s, jput_0, jput_1, jput_2, jput_3, jpop_0, jpop_1, jcl_s, jc1, jc2, jvi, Nat.reduceAdd, jol_i, jol_l, jol_n, jap_n, jap_c, List.map_cons, List.map_nil, List.sum_cons, List.sum_nil, jcI, jcL, jcR, gI_sI, gI_sL, gI_sR, gL_sI, gL_sL, gL_sR, gR_sI, gR_sL, gR_sR, gS_sI, gS_sL, gS_sR, gN_sI, gN_sL, gN_sR] | simp (disch := omega) only [Nat.zero_le, true_and, and_true, and_self, Nat.reduceLeDiff, true_or, or_true, false_or, or_false, Nat.reduceEqDiff, false_and, and_false, if_false, if_true, reduceIte, not_true_eq_false, not_false_eq_true, true_imp_iff, false_imp_iff, List.map_cons, List.map_nil, List.sum_cons, List.sum_nil, jcI, jcL, jcR, Nat.reduceAdd, jrv_s, j1r_c, jap_n, jap_c, gI_sI, gL_sL, gI_sL, gL_sI, an_lt, an_le, an_eq, an_lt0, an_0le, an_0lt, an_le0, an_eq0, an_eq1, an_1lt, an_le1, an_1le, an_lt1, an_eqm, an_sub, an_sub1, an_div, an_rem, an_in, an_in0, an_in1, an_cl, an_cl0, an_cl1, nI_add, nI_1, an_1a, pk_mul, Nat.reduceMul, jz10, jz01, j00, j11, jb0, Classical.not_not, eq_self, an_ite, an_of, an_nm, nI_l, lN_add, lN_mul, lN_i, lj_2, lj_3, lj_4, lj_5, lj_6, lj_7, lj_8, lj_9, lj_10, lj_11, lj_12, lj_13, lj_14, lj_15, lj_16, lj_17, lj_18, lj_19, lj_20, lj_21, lj_22, lj_23, lj_24, lj_25, lj_26, lj_27, lj_28, lj_29, lj_30, lj_31, lj_32, lj_33, lj_34, lj_35, lj_36, lj_37, lj_38, lj_39, lj_40, lj_48, lj_50, lj_57, lj_59, lj_60, lj_63, lj_64, lj_65, lj_90, lj_96, lj_97, lj_99, lj_100, lj_101, lj_105, lj_112, lj_114, lj_116, lj_119, lj_122, lj_128, lj_200, lj_255, lj_256, lj_500, lj_777, lj_1000, c1, c2] | (refine br_c (fun _ => ?_) (fun _ => ?_) <;> try (exfalso; omega)) | (refine br_d (fun _ => ?_) (fun _ => ?_) <;> try (exfalso; omega)) | refine And.intro ?_ ?_ | (refine Nat.ne_of_gt ?_; omega))
    all_goals exact h
theorem sM_trayN {i : Nat} (hW : jWd L t μ) (hi : i < 4) (h : Q (some (.int (if 0 ≤ gI μ 135 i then 0 else 3))) μ) : jC d 195 [.ref 133, .int (nI i)] μ Q := by
  refine e195 (b195_0 ?_)
  by_cases c : 0 ≤ gI μ 135 i
  · rw [if_pos c] at h
    repeat' (first | refine b195_9 ?_ | refine b195_13 ?_ | refine b195_26 ?_ | refine b195_27 ?_ | dsimp only [jb_e0, jb_ec, jb_n, jb_c, jx_op, j1i_c, j2i_c, j1l_c, j2l_c, jil_c, j1r_c, jri_c, jrii_c, jril_c, jrl_c, jrr_c, j2i'_c, jdup_i, jdup_r, jdup2_c, jdup2_l, jpo_c, jli, jll, jlr, jat_0, jat_s, jst, jst2, jkill_i, jkill_r, jkill_l, jkill_n, jnone, jgv_0, jgv_1, jgv_2, jgv_3, jrv_s, jput_0, jput_1, jput_2, jput_3, jpop_0, jpop_1, jcl_s, jc1, jc2, jvi, Nat.reduceAdd, jol_i, jol_l, jol_n, jap_n, jap_c, List.map_cons, List.map_nil, List.sum_cons, List.sum_nil, jcI, jcL, jcR, gI_sI, gI_sL, gI_sR, gL_sI, gL_sL, gL_sR, gR_sI, gR_sL, gR_sR, gS_sI, gS_sL, gS_sR, gN_sI, gN_sL, gN_sR] | simp (disch := omega) only [Nat.zero_le, true_and, and_true, and_self, Nat.reduceLeDiff, true_or, or_true, false_or, or_false, Nat.reduceEqDiff, false_and, and_false, if_false, if_true, reduceIte, not_true_eq_false, not_false_eq_true, true_imp_iff, false_imp_iff, List.map_cons, List.map_nil, List.sum_cons, List.sum_nil, jcI, jcL, jcR, Nat.reduceAdd, jrv_s, j1r_c, jap_n, jap_c, gI_sI, gL_sL, gI_sL, gL_sI, an_lt, an_le, an_eq, an_lt0, an_0le, an_0lt, an_le0, an_eq0, an_eq1, an_1lt, an_le1, an_1le, an_lt1, an_eqm, an_sub, an_sub1, an_div, an_rem, an_in, an_in0, an_in1, an_cl, an_cl0, an_cl1, nI_add, nI_1, an_1a, pk_mul, Nat.reduceMul, jz10, jz01, j00, j11, jb0, Classical.not_not, eq_self, an_ite, an_of, an_nm, nI_l, lN_add, lN_mul, lN_i, lj_2, lj_3, lj_4, lj_5, lj_6, lj_7, lj_8, lj_9, lj_10, lj_11, lj_12, lj_13, lj_14, lj_15, lj_16, lj_17, lj_18, lj_19, lj_20, lj_21, lj_22, lj_23, lj_24, lj_25, lj_26, lj_27, lj_28, lj_29, lj_30, lj_31, lj_32, lj_33, lj_34, lj_35, lj_36, lj_37, lj_38, lj_39, lj_40, lj_48, lj_50, lj_57, lj_59, lj_60, lj_63, lj_64, lj_65, lj_90, lj_96, lj_97, lj_99, lj_100, lj_101, lj_105, lj_112, lj_114, lj_116, lj_119, lj_122, lj_128, lj_200, lj_255, lj_256, lj_500, lj_777, lj_1000, jr_133_4 hW, jr_133_5 hW, jr_133_6 hW, jr_133_7 hW, jr_133_31 hW, jr_133_32 hW, jr_133_33 hW, jr_133_34 hW, jr_133_35 hW, jr_133_36 hW, jr_133_37 hW, jr_133_38 hW, jr_133_39 hW, jr_133_40 hW, jr_133_41 hW, jr_133_42 hW, jr_133_44 hW, jr_133_45 hW, jr_133_46 hW, jr_133_47 hW, jr_133_48 hW, jr_133_49 hW, jr_133_50 hW, jr_133_51 hW, jr_133_55 hW, jr_133_56 hW, jr_133_57 hW, jr_133_58 hW, jr_133_62 hW, jr_133_65 hW, jr_133_66 hW, jr_133_67 hW, jr_133_68 hW, jr_133_69 hW, jr_133_70 hW, jr_133_71 hW, jr_133_74 hW, jr_133_75 hW, hW.1, jS0_133, jS0_134, jS0_135, jS0_136, jS0_137, jS0_138, jS0_139, jS0_140, jS0_141, jS0_142, jS0_143, jS0_144, jS0_145, jS0_146, jS0_147, jS0_148, jS0_149, jS0_150, jS0_151, jS0_152, jS0_153, jS0_154, jS0_155, jS0_156, jS0_157, jS0_158, jS0_159, jS0_160, jS0_161, jS0_162, jS0_163, jS0_164, jS0_165, jS0_166, jS0_167, jS0_168, jS0_169, jS0_170, jS0_171, c] | (refine br_c (fun _ => ?_) (fun _ => ?_) <;> try (exfalso; omega)) | (refine br_d (fun _ => ?_) (fun _ => ?_) <;> try (exfalso; omega)) | refine And.intro ?_ ?_ | (refine Nat.ne_of_gt ?_; omega))
    all_goals exact h
  · rw [if_neg c] at h
    repeat' (first | refine b195_9 ?_ | refine b195_13 ?_ | refine b195_26 ?_ | refine b195_27 ?_ | dsimp only [jb_e0, jb_ec, jb_n, jb_c, jx_op, j1i_c, j2i_c, j1l_c, j2l_c, jil_c, j1r_c, jri_c, jrii_c, jril_c, jrl_c, jrr_c, j2i'_c, jdup_i, jdup_r, jdup2_c, jdup2_l, jpo_c, jli, jll, jlr, jat_0, jat_s, jst, jst2, jkill_i, jkill_r, jkill_l, jkill_n, jnone, jgv_0, jgv_1, jgv_2, jgv_3, jrv_s, jput_0, jput_1, jput_2, jput_3, jpop_0, jpop_1, jcl_s, jc1, jc2, jvi, Nat.reduceAdd, jol_i, jol_l, jol_n, jap_n, jap_c, List.map_cons, List.map_nil, List.sum_cons, List.sum_nil, jcI, jcL, jcR, gI_sI, gI_sL, gI_sR, gL_sI, gL_sL, gL_sR, gR_sI, gR_sL, gR_sR, gS_sI, gS_sL, gS_sR, gN_sI, gN_sL, gN_sR] | simp (disch := omega) only [Nat.zero_le, true_and, and_true, and_self, Nat.reduceLeDiff, true_or, or_true, false_or, or_false, Nat.reduceEqDiff, false_and, and_false, if_false, if_true, reduceIte, not_true_eq_false, not_false_eq_true, true_imp_iff, false_imp_iff, List.map_cons, List.map_nil, List.sum_cons, List.sum_nil, jcI, jcL, jcR, Nat.reduceAdd, jrv_s, j1r_c, jap_n, jap_c, gI_sI, gL_sL, gI_sL, gL_sI, an_lt, an_le, an_eq, an_lt0, an_0le, an_0lt, an_le0, an_eq0, an_eq1, an_1lt, an_le1, an_1le, an_lt1, an_eqm, an_sub, an_sub1, an_div, an_rem, an_in, an_in0, an_in1, an_cl, an_cl0, an_cl1, nI_add, nI_1, an_1a, pk_mul, Nat.reduceMul, jz10, jz01, j00, j11, jb0, Classical.not_not, eq_self, an_ite, an_of, an_nm, nI_l, lN_add, lN_mul, lN_i, lj_2, lj_3, lj_4, lj_5, lj_6, lj_7, lj_8, lj_9, lj_10, lj_11, lj_12, lj_13, lj_14, lj_15, lj_16, lj_17, lj_18, lj_19, lj_20, lj_21, lj_22, lj_23, lj_24, lj_25, lj_26, lj_27, lj_28, lj_29, lj_30, lj_31, lj_32, lj_33, lj_34, lj_35, lj_36, lj_37, lj_38, lj_39, lj_40, lj_48, lj_50, lj_57, lj_59, lj_60, lj_63, lj_64, lj_65, lj_90, lj_96, lj_97, lj_99, lj_100, lj_101, lj_105, lj_112, lj_114, lj_116, lj_119, lj_122, lj_128, lj_200, lj_255, lj_256, lj_500, lj_777, lj_1000, jr_133_4 hW, jr_133_5 hW, jr_133_6 hW, jr_133_7 hW, jr_133_31 hW, jr_133_32 hW, jr_133_33 hW, jr_133_34 hW, jr_133_35 hW, jr_133_36 hW, jr_133_37 hW, jr_133_38 hW, jr_133_39 hW, jr_133_40 hW, jr_133_41 hW, jr_133_42 hW, jr_133_44 hW, jr_133_45 hW, jr_133_46 hW, jr_133_47 hW, jr_133_48 hW, jr_133_49 hW, jr_133_50 hW, jr_133_51 hW, jr_133_55 hW, jr_133_56 hW, jr_133_57 hW, jr_133_58 hW, jr_133_62 hW, jr_133_65 hW, jr_133_66 hW, jr_133_67 hW, jr_133_68 hW, jr_133_69 hW, jr_133_70 hW, jr_133_71 hW, jr_133_74 hW, jr_133_75 hW, hW.1, jS0_133, jS0_134, jS0_135, jS0_136, jS0_137, jS0_138, jS0_139, jS0_140, jS0_141, jS0_142, jS0_143, jS0_144, jS0_145, jS0_146, jS0_147, jS0_148, jS0_149, jS0_150, jS0_151, jS0_152, jS0_153, jS0_154, jS0_155, jS0_156, jS0_157, jS0_158, jS0_159, jS0_160, jS0_161, jS0_162, jS0_163, jS0_164, jS0_165, jS0_166, jS0_167, jS0_168, jS0_169, jS0_170, jS0_171, c] | (refine br_c (fun _ => ?_) (fun _ => ?_) <;> try (exfalso; omega)) | (refine br_d (fun _ => ?_) (fun _ => ?_) <;> try (exfalso; omega)) | refine And.intro ?_ ?_ | (refine Nat.ne_of_gt ?_; omega))
    all_goals exact h
theorem sM_addWay {i n : Nat} {len ag : Int32} (hW : jWd L t μ) (hV : jVok V) (hM : jVM V μ) (hi : i < 4) (hn24 : n ≤ 24) (hc : wC V < 12) (hag : ag = 0 ∨ ag = 1)
    (h : ∀ ν, jFr [151] μ ν → (∀ k, k < n → gI ν 151 (24 * wC V + k) = (gL μ 136 (64 * i + k)).toInt32) → (∀ j, j < 24 * wC V → gI ν 151 j = gI μ 151 j) → Q (some (.int (nI (wC V)))) (sI (sI (sI ν 150 (wC V) len) 152 (wC V) ag) 133 43 (nI (wC V + 1)))) : jC (d + 2) 243 [.ref 133, .int (nI i), .int (nI n), .int len, .int ag] μ Q := by
  have q := hM.1
  generalize hcc : wC V = c at *
  have key : ∀ (m k : Nat) (ν : jMem), k + m = n → jFr [151] μ ν → (∀ j, j < k → gI ν 151 (24 * c + j) = (gL μ 136 (64 * i + j)).toInt32) → (∀ j, j < 24 * c → gI ν 151 j = gI μ 151 j) → jR (d + 2) 243 19 [some (.ref 133), some (.int (nI i)), some (.int (nI n)), some (.int len), some (.int ag), some (.int (nI k))] [] (0, 0) ν Q := by
    intro m
    induction m with
    | zero =>
      intro k ν hk hF hj hr
      obtain rfl : k = n := by omega
      have hWν := hF.wd hW
      have q' : gI ν 133 43 = nI c := ((hF.1 133 (by simp)).1 43).trans q
      have kk := h ν hF hj hr
      refine b243_19 ?_
      repeat' (first | refine b243_16 ?_ | refine b243_54 ?_ | dsimp only [jb_e0, jb_ec, jb_n, jb_c, jx_op, j1i_c, j2i_c, j1l_c, j2l_c, jil_c, j1r_c, jri_c, jrii_c, jril_c, jrl_c, jrr_c, j2i'_c, jdup_i, jdup_r, jdup2_c, jdup2_l, jpo_c, jli, jll, jlr, jat_0, jat_s, jst, jst2, jkill_i, jkill_r, jkill_l, jkill_n, jnone, jgv_0, jgv_1, jgv_2, jgv_3, jrv_s, jput_0, jput_1, jput_2, jput_3, jpop_0, jpop_1, jcl_s, jc1, jc2, jvi, Nat.reduceAdd, jol_i, jol_l, jol_n, jap_n, jap_c, List.map_cons, List.map_nil, List.sum_cons, List.sum_nil, jcI, jcL, jcR, gI_sI, gI_sL, gI_sR, gL_sI, gL_sL, gL_sR, gR_sI, gR_sL, gR_sR, gS_sI, gS_sL, gS_sR, gN_sI, gN_sL, gN_sR] | simp (disch := omega) only [Nat.zero_le, true_and, and_true, and_self, Nat.reduceLeDiff, true_or, or_true, false_or, or_false, Nat.reduceEqDiff, false_and, and_false, if_false, if_true, reduceIte, not_true_eq_false, not_false_eq_true, true_imp_iff, false_imp_iff, List.map_cons, List.map_nil, List.sum_cons, List.sum_nil, jcI, jcL, jcR, Nat.reduceAdd, jrv_s, j1r_c, jap_n, jap_c, gI_sI, gL_sL, gI_sL, gL_sI, an_lt, an_le, an_eq, an_lt0, an_0le, an_0lt, an_le0, an_eq0, an_eq1, an_1lt, an_le1, an_1le, an_lt1, an_eqm, an_sub, an_sub1, an_div, an_rem, an_in, an_in0, an_in1, an_cl, an_cl0, an_cl1, nI_add, nI_1, an_1a, pk_mul, Nat.reduceMul, jz10, jz01, j00, j11, jb0, Classical.not_not, eq_self, an_ite, an_of, an_nm, nI_l, lN_add, lN_mul, lN_i, lj_2, lj_3, lj_4, lj_5, lj_6, lj_7, lj_8, lj_9, lj_10, lj_11, lj_12, lj_13, lj_14, lj_15, lj_16, lj_17, lj_18, lj_19, lj_20, lj_21, lj_22, lj_23, lj_24, lj_25, lj_26, lj_27, lj_28, lj_29, lj_30, lj_31, lj_32, lj_33, lj_34, lj_35, lj_36, lj_37, lj_38, lj_39, lj_40, lj_48, lj_50, lj_57, lj_59, lj_60, lj_63, lj_64, lj_65, lj_90, lj_96, lj_97, lj_99, lj_100, lj_101, lj_105, lj_112, lj_114, lj_116, lj_119, lj_122, lj_128, lj_200, lj_255, lj_256, lj_500, lj_777, lj_1000, jr_133_4 hWν, jr_133_5 hWν, jr_133_6 hWν, jr_133_7 hWν, jr_133_31 hWν, jr_133_32 hWν, jr_133_33 hWν, jr_133_34 hWν, jr_133_35 hWν, jr_133_36 hWν, jr_133_37 hWν, jr_133_38 hWν, jr_133_39 hWν, jr_133_40 hWν, jr_133_41 hWν, jr_133_42 hWν, jr_133_44 hWν, jr_133_45 hWν, jr_133_46 hWν, jr_133_47 hWν, jr_133_48 hWν, jr_133_49 hWν, jr_133_50 hWν, jr_133_51 hWν, jr_133_55 hWν, jr_133_56 hWν, jr_133_57 hWν, jr_133_58 hWν, jr_133_62 hWν, jr_133_65 hWν, jr_133_66 hWν, jr_133_67 hWν, jr_133_68 hWν, jr_133_69 hWν, jr_133_70 hWν, jr_133_71 hWν, jr_133_74 hWν, jr_133_75 hWν, hWν.1, jS0_133, jS0_134, jS0_135, jS0_136, jS0_137, jS0_138, jS0_139, jS0_140, jS0_141, jS0_142, jS0_143, jS0_144, jS0_145, jS0_146, jS0_147, jS0_148, jS0_149, jS0_150, jS0_151, jS0_152, jS0_153, jS0_154, jS0_155, jS0_156, jS0_157, jS0_158, jS0_159, jS0_160, jS0_161, jS0_162, jS0_163, jS0_164, jS0_165, jS0_166, jS0_167, jS0_168, jS0_169, jS0_170, jS0_171, q', hag] | (refine br_c (fun _ => ?_) (fun _ => ?_) <;> try (exfalso; omega)) | (refine br_d (fun _ => ?_) (fun _ => ?_) <;> try (exfalso; omega)) | refine And.intro ?_ ?_ | (refine Nat.ne_of_gt ?_; omega))
      all_goals exact kk
    | succ m ih =>
      intro k ν hk hF hj hr
      have hWν := hF.wd hW
      have q' : gI ν 133 43 = nI c := ((hF.1 133 (by simp)).1 43).trans q
      have eL : gL ν 136 (64 * i + k) = gL μ 136 (64 * i + k) := (hF.1 136 (by simp)).2 _
      have nm : ∀ (d : Nat) (Q' : jQ), Q' (some (.long (gL μ 136 (64 * i + k)))) ν → jC d 200 [.ref 133, .int (nI i), .int (nI k)] ν Q' := fun d Q' kq => sM_numberOf hWν (by omega) (by rw [eL]; exact kq)
      have kk := ih (k + 1) (sI ν 151 (24 * c + k) (gL μ 136 (64 * i + k)).toInt32) (by omega) (hF.trans (jFr.sI (by simp))) (fun j h1 => by
        rw [gI_sI]
        by_cases ej : j = k
        · subst ej
          rw [if_pos ⟨rfl, rfl⟩]
        · rw [if_neg (by omega)]
          exact hj j (by omega)) (fun j h1 => by
        rw [gI_sI, if_neg (by omega)]
        exact hr j h1)
      refine b243_19 ?_
      repeat' (first | refine b243_16 ?_ | refine nm _ _ ?_ | dsimp only [jb_e0, jb_ec, jb_n, jb_c, jx_op, j1i_c, j2i_c, j1l_c, j2l_c, jil_c, j1r_c, jri_c, jrii_c, jril_c, jrl_c, jrr_c, j2i'_c, jdup_i, jdup_r, jdup2_c, jdup2_l, jpo_c, jli, jll, jlr, jat_0, jat_s, jst, jst2, jkill_i, jkill_r, jkill_l, jkill_n, jnone, jgv_0, jgv_1, jgv_2, jgv_3, jrv_s, jput_0, jput_1, jput_2, jput_3, jpop_0, jpop_1, jcl_s, jc1, jc2, jvi, Nat.reduceAdd, jol_i, jol_l, jol_n, jap_n, jap_c, List.map_cons, List.map_nil, List.sum_cons, List.sum_nil, jcI, jcL, jcR, gI_sI, gI_sL, gI_sR, gL_sI, gL_sL, gL_sR, gR_sI, gR_sL, gR_sR, gS_sI, gS_sL, gS_sR, gN_sI, gN_sL, gN_sR] | simp (disch := omega) only [Nat.zero_le, true_and, and_true, and_self, Nat.reduceLeDiff, true_or, or_true, false_or, or_false, Nat.reduceEqDiff, false_and, and_false, if_false, if_true, reduceIte, not_true_eq_false, not_false_eq_true, true_imp_iff, false_imp_iff, List.map_cons, List.map_nil, List.sum_cons, List.sum_nil, jcI, jcL, jcR, Nat.reduceAdd, jrv_s, j1r_c, jap_n, jap_c, gI_sI, gL_sL, gI_sL, gL_sI, an_lt, an_le, an_eq, an_lt0, an_0le, an_0lt, an_le0, an_eq0, an_eq1, an_1lt, an_le1, an_1le, an_lt1, an_eqm, an_sub, an_sub1, an_div, an_rem, an_in, an_in0, an_in1, an_cl, an_cl0, an_cl1, nI_add, nI_1, an_1a, pk_mul, Nat.reduceMul, jz10, jz01, j00, j11, jb0, Classical.not_not, eq_self, an_ite, an_of, an_nm, nI_l, lN_add, lN_mul, lN_i, lj_2, lj_3, lj_4, lj_5, lj_6, lj_7, lj_8, lj_9, lj_10, lj_11, lj_12, lj_13, lj_14, lj_15, lj_16, lj_17, lj_18, lj_19, lj_20, lj_21, lj_22, lj_23, lj_24, lj_25, lj_26, lj_27, lj_28, lj_29, lj_30, lj_31, lj_32, lj_33, lj_34, lj_35, lj_36, lj_37, lj_38, lj_39, lj_40, lj_48, lj_50, lj_57, lj_59, lj_60, lj_63, lj_64, lj_65, lj_90, lj_96, lj_97, lj_99, lj_100, lj_101, lj_105, lj_112, lj_114, lj_116, lj_119, lj_122, lj_128, lj_200, lj_255, lj_256, lj_500, lj_777, lj_1000, jr_133_4 hWν, jr_133_5 hWν, jr_133_6 hWν, jr_133_7 hWν, jr_133_31 hWν, jr_133_32 hWν, jr_133_33 hWν, jr_133_34 hWν, jr_133_35 hWν, jr_133_36 hWν, jr_133_37 hWν, jr_133_38 hWν, jr_133_39 hWν, jr_133_40 hWν, jr_133_41 hWν, jr_133_42 hWν, jr_133_44 hWν, jr_133_45 hWν, jr_133_46 hWν, jr_133_47 hWν, jr_133_48 hWν, jr_133_49 hWν, jr_133_50 hWν, jr_133_51 hWν, jr_133_55 hWν, jr_133_56 hWν, jr_133_57 hWν, jr_133_58 hWν, jr_133_62 hWν, jr_133_65 hWν, jr_133_66 hWν, jr_133_67 hWν, jr_133_68 hWν, jr_133_69 hWν, jr_133_70 hWν, jr_133_71 hWν, jr_133_74 hWν, jr_133_75 hWν, hWν.1, jS0_133, jS0_134, jS0_135, jS0_136, jS0_137, jS0_138, jS0_139, jS0_140, jS0_141, jS0_142, jS0_143, jS0_144, jS0_145, jS0_146, jS0_147, jS0_148, jS0_149, jS0_150, jS0_151, jS0_152, jS0_153, jS0_154, jS0_155, jS0_156, jS0_157, jS0_158, jS0_159, jS0_160, jS0_161, jS0_162, jS0_163, jS0_164, jS0_165, jS0_166, jS0_167, jS0_168, jS0_169, jS0_170, jS0_171, q'] | (refine br_c (fun _ => ?_) (fun _ => ?_) <;> try (exfalso; omega)) | (refine br_d (fun _ => ?_) (fun _ => ?_) <;> try (exfalso; omega)) | refine And.intro ?_ ?_ | (refine Nat.ne_of_gt ?_; omega))
      all_goals exact kk
  have kk := key n 0 μ (by omega) jFr.rf (fun j hj => absurd hj (Nat.not_lt_zero _)) (fun j hj => rfl)
  refine e243 (b243_0 ?_)
  repeat' (first | refine b243_16 ?_ | refine b243_54 ?_ | dsimp only [jb_e0, jb_ec, jb_n, jb_c, jx_op, j1i_c, j2i_c, j1l_c, j2l_c, jil_c, j1r_c, jri_c, jrii_c, jril_c, jrl_c, jrr_c, j2i'_c, jdup_i, jdup_r, jdup2_c, jdup2_l, jpo_c, jli, jll, jlr, jat_0, jat_s, jst, jst2, jkill_i, jkill_r, jkill_l, jkill_n, jnone, jgv_0, jgv_1, jgv_2, jgv_3, jrv_s, jput_0, jput_1, jput_2, jput_3, jpop_0, jpop_1, jcl_s, jc1, jc2, jvi, Nat.reduceAdd, jol_i, jol_l, jol_n, jap_n, jap_c, List.map_cons, List.map_nil, List.sum_cons, List.sum_nil, jcI, jcL, jcR, gI_sI, gI_sL, gI_sR, gL_sI, gL_sL, gL_sR, gR_sI, gR_sL, gR_sR, gS_sI, gS_sL, gS_sR, gN_sI, gN_sL, gN_sR] | simp (disch := omega) only [Nat.zero_le, true_and, and_true, and_self, Nat.reduceLeDiff, true_or, or_true, false_or, or_false, Nat.reduceEqDiff, false_and, and_false, if_false, if_true, reduceIte, not_true_eq_false, not_false_eq_true, true_imp_iff, false_imp_iff, List.map_cons, List.map_nil, List.sum_cons, List.sum_nil, jcI, jcL, jcR, Nat.reduceAdd, jrv_s, j1r_c, jap_n, jap_c, gI_sI, gL_sL, gI_sL, gL_sI, an_lt, an_le, an_eq, an_lt0, an_0le, an_0lt, an_le0, an_eq0, an_eq1, an_1lt, an_le1, an_1le, an_lt1, an_eqm, an_sub, an_sub1, an_div, an_rem, an_in, an_in0, an_in1, an_cl, an_cl0, an_cl1, nI_add, nI_1, an_1a, pk_mul, Nat.reduceMul, jz10, jz01, j00, j11, jb0, Classical.not_not, eq_self, an_ite, an_of, an_nm, nI_l, lN_add, lN_mul, lN_i, lj_2, lj_3, lj_4, lj_5, lj_6, lj_7, lj_8, lj_9, lj_10, lj_11, lj_12, lj_13, lj_14, lj_15, lj_16, lj_17, lj_18, lj_19, lj_20, lj_21, lj_22, lj_23, lj_24, lj_25, lj_26, lj_27, lj_28, lj_29, lj_30, lj_31, lj_32, lj_33, lj_34, lj_35, lj_36, lj_37, lj_38, lj_39, lj_40, lj_48, lj_50, lj_57, lj_59, lj_60, lj_63, lj_64, lj_65, lj_90, lj_96, lj_97, lj_99, lj_100, lj_101, lj_105, lj_112, lj_114, lj_116, lj_119, lj_122, lj_128, lj_200, lj_255, lj_256, lj_500, lj_777, lj_1000, jr_133_4 hW, jr_133_5 hW, jr_133_6 hW, jr_133_7 hW, jr_133_31 hW, jr_133_32 hW, jr_133_33 hW, jr_133_34 hW, jr_133_35 hW, jr_133_36 hW, jr_133_37 hW, jr_133_38 hW, jr_133_39 hW, jr_133_40 hW, jr_133_41 hW, jr_133_42 hW, jr_133_44 hW, jr_133_45 hW, jr_133_46 hW, jr_133_47 hW, jr_133_48 hW, jr_133_49 hW, jr_133_50 hW, jr_133_51 hW, jr_133_55 hW, jr_133_56 hW, jr_133_57 hW, jr_133_58 hW, jr_133_62 hW, jr_133_65 hW, jr_133_66 hW, jr_133_67 hW, jr_133_68 hW, jr_133_69 hW, jr_133_70 hW, jr_133_71 hW, jr_133_74 hW, jr_133_75 hW, hW.1, jS0_133, jS0_134, jS0_135, jS0_136, jS0_137, jS0_138, jS0_139, jS0_140, jS0_141, jS0_142, jS0_143, jS0_144, jS0_145, jS0_146, jS0_147, jS0_148, jS0_149, jS0_150, jS0_151, jS0_152, jS0_153, jS0_154, jS0_155, jS0_156, jS0_157, jS0_158, jS0_159, jS0_160, jS0_161, jS0_162, jS0_163, jS0_164, jS0_165, jS0_166, jS0_167, jS0_168, jS0_169, jS0_170, jS0_171, q] | (refine br_c (fun _ => ?_) (fun _ => ?_) <;> try (exfalso; omega)) | (refine br_d (fun _ => ?_) (fun _ => ?_) <;> try (exfalso; omega)) | refine And.intro ?_ ?_ | (refine Nat.ne_of_gt ?_; omega))
  all_goals exact kk
theorem sM_addFull {x1 x2 x3 x4 : Int32} (hW : jWd L t μ) (hM : jVM V μ) (hc : wC V = 12) (h : Q (some (.int (-1))) (sI μ 133 0 7)) : jC (d + 2) 243 [.ref 133, .int x1, .int x2, .int x3, .int x4] μ Q := by
  have q := hM.1
  rw [hc] at q
  refine e243 (b243_0 ?_)
  repeat' (first | refine b243_19 ?_ | refine b243_54 ?_ | refine sM_refuse hW ?_ | dsimp only [jb_e0, jb_ec, jb_n, jb_c, jx_op, j1i_c, j2i_c, j1l_c, j2l_c, jil_c, j1r_c, jri_c, jrii_c, jril_c, jrl_c, jrr_c, j2i'_c, jdup_i, jdup_r, jdup2_c, jdup2_l, jpo_c, jli, jll, jlr, jat_0, jat_s, jst, jst2, jkill_i, jkill_r, jkill_l, jkill_n, jnone, jgv_0, jgv_1, jgv_2, jgv_3, jrv_s, jput_0, jput_1, jput_2, jput_3, jpop_0, jpop_1, jcl_s, jc1, jc2, jvi, Nat.reduceAdd, jol_i, jol_l, jol_n, jap_n, jap_c, List.map_cons, List.map_nil, List.sum_cons, List.sum_nil, jcI, jcL, jcR, gI_sI, gI_sL, gI_sR, gL_sI, gL_sL, gL_sR, gR_sI, gR_sL, gR_sR, gS_sI, gS_sL, gS_sR, gN_sI, gN_sL, gN_sR] | simp (disch := omega) only [Nat.zero_le, true_and, and_true, and_self, Nat.reduceLeDiff, true_or, or_true, false_or, or_false, Nat.reduceEqDiff, false_and, and_false, if_false, if_true, reduceIte, not_true_eq_false, not_false_eq_true, true_imp_iff, false_imp_iff, List.map_cons, List.map_nil, List.sum_cons, List.sum_nil, jcI, jcL, jcR, Nat.reduceAdd, jrv_s, j1r_c, jap_n, jap_c, gI_sI, gL_sL, gI_sL, gL_sI, an_lt, an_le, an_eq, an_lt0, an_0le, an_0lt, an_le0, an_eq0, an_eq1, an_1lt, an_le1, an_1le, an_lt1, an_eqm, an_sub, an_sub1, an_div, an_rem, an_in, an_in0, an_in1, an_cl, an_cl0, an_cl1, nI_add, nI_1, an_1a, pk_mul, Nat.reduceMul, jz10, jz01, j00, j11, jb0, Classical.not_not, eq_self, an_ite, an_of, an_nm, nI_l, lN_add, lN_mul, lN_i, lj_2, lj_3, lj_4, lj_5, lj_6, lj_7, lj_8, lj_9, lj_10, lj_11, lj_12, lj_13, lj_14, lj_15, lj_16, lj_17, lj_18, lj_19, lj_20, lj_21, lj_22, lj_23, lj_24, lj_25, lj_26, lj_27, lj_28, lj_29, lj_30, lj_31, lj_32, lj_33, lj_34, lj_35, lj_36, lj_37, lj_38, lj_39, lj_40, lj_48, lj_50, lj_57, lj_59, lj_60, lj_63, lj_64, lj_65, lj_90, lj_96, lj_97, lj_99, lj_100, lj_101, lj_105, lj_112, lj_114, lj_116, lj_119, lj_122, lj_128, lj_200, lj_255, lj_256, lj_500, lj_777, lj_1000, jr_133_4 hW, jr_133_5 hW, jr_133_6 hW, jr_133_7 hW, jr_133_31 hW, jr_133_32 hW, jr_133_33 hW, jr_133_34 hW, jr_133_35 hW, jr_133_36 hW, jr_133_37 hW, jr_133_38 hW, jr_133_39 hW, jr_133_40 hW, jr_133_41 hW, jr_133_42 hW, jr_133_44 hW, jr_133_45 hW, jr_133_46 hW, jr_133_47 hW, jr_133_48 hW, jr_133_49 hW, jr_133_50 hW, jr_133_51 hW, jr_133_55 hW, jr_133_56 hW, jr_133_57 hW, jr_133_58 hW, jr_133_62 hW, jr_133_65 hW, jr_133_66 hW, jr_133_67 hW, jr_133_68 hW, jr_133_69 hW, jr_133_70 hW, jr_133_71 hW, jr_133_74 hW, jr_133_75 hW, hW.1, jS0_133, jS0_134, jS0_135, jS0_136, jS0_137, jS0_138, jS0_139, jS0_140, jS0_141, jS0_142, jS0_143, jS0_144, jS0_145, jS0_146, jS0_147, jS0_148, jS0_149, jS0_150, jS0_151, jS0_152, jS0_153, jS0_154, jS0_155, jS0_156, jS0_157, jS0_158, jS0_159, jS0_160, jS0_161, jS0_162, jS0_163, jS0_164, jS0_165, jS0_166, jS0_167, jS0_168, jS0_169, jS0_170, jS0_171, q] | (refine br_c (fun _ => ?_) (fun _ => ?_) <;> try (exfalso; omega)) | (refine br_d (fun _ => ?_) (fun _ => ?_) <;> try (exfalso; omega)) | refine And.intro ?_ ?_ | (refine Nat.ne_of_gt ?_; omega))
  all_goals exact h
/-- both sides have the new way -/
theorem way_fin {n ln ag : Nat} {i : Nat} {ν ξ : jMem} (hW : jWd L t μ) (hS : jSt μ) (hT : jTr μ) (hO : jOth t μ) (hV : jVok V) (hX : jVX V μ) (hM : jVM V μ) (hc : wC V < 12) (hln : ln ≤ 24) (hag : ag ≤ 1) (hn : (if ln = 0 then 18 else ln) = n) (hn24 : n ≤ 24) (hin : ∀ k, k < n → wIn (nI (if ln = 0 then 14 else 4)) (gL μ (4 + i) k)) (heq : ∀ k, k < n → gL μ 136 (64 * i + k) = gL μ (4 + i) k)
    (F : jFr [37] (sI (sI μ 35 (wC V) (nI ln)) 36 (wC V) (nI ag)) ν) (f1 : ∀ k, k < n → gI ν 37 (24 * wC V + k) = (gL μ (4 + i) k).toInt32) (f2 : ∀ j, j < 24 * wC V → gI ν 37 j = gI μ 37 j)
    (G : jFr [151] (sI (sI (sI (sI ν 34 0 (nI (wC V + 1))) 1 0 0) 133 1 0) 133 0 0) ξ) (g1 : ∀ k, k < n → gI ξ 151 (24 * wC V + k) = (gL μ 136 (64 * i + k)).toInt32) (g2 : ∀ j, j < 24 * wC V → gI ξ 151 j = gI μ 151 j) :
    jInv L (sI (sI (sI ξ 150 (wC V) (nI ln)) 152 (wC V) (nI ag)) 133 43 (nI (wC V + 1))) := by
  have hWf : jWd L t (sI (sI (sI ξ 150 (wC V) (nI ln)) 152 (wC V) (nI ag)) 133 43 (nI (wC V + 1))) := G.wd (F.wd hW)
  have Ex : jEx jwc μ (sI (sI (sI ξ 150 (wC V) (nI ln)) 152 (wC V) (nI ag)) 133 43 (nI (wC V + 1))) := by
    have e1 : jEx jwc μ (sI (sI μ 35 (wC V) (nI ln)) 36 (wC V) (nI ag)) := (jEx.rf.sI rfl).sI rfl
    have e2 : jEx jwc μ (sI ν 34 0 (nI (wC V + 1))) := (e1.fr (by intro a ha; simp at ha; subst ha; right; intro k; rfl) F).sI rfl
    have e3 : jEx jwc μ (sI (sI (sI (sI ν 34 0 (nI (wC V + 1))) 1 0 0) 133 1 0) 133 0 0) := e2.ev (((jEv.rf (f := false)).sI rfl |>.sI rfl).sI rfl)
    exact (((e3.fr (by intro a ha; simp at ha; subst ha; right; intro k; rfl) G).sI rfl).sI rfl).sI rfl
  obtain ⟨a1, a2, a3, a4, a5⟩ := wAdd_n (V := V) (ln := ln) (ag := ag) (x := fun k => (gL μ (4 + i) k).toInt.toNat)
  have hx : ∀ k, k < n → ∃ y, y ≤ (if ln = 0 then 14 else 4) ∧ gL μ (4 + i) k = lN y ∧ (gL μ (4 + i) k).toInt.toNat = y := fun k hk => by
    obtain ⟨y, hy, e⟩ := wIn_n (by split <;> omega) (hin k hk)
    have hy14 : y ≤ 14 := by
      split at hy <;> omega
    refine ⟨y, hy, e, ?_⟩
    rw [e, pk_lT (by omega)]
    rfl
  refine ⟨t, hWf, ⟨?_, ?_, ?_⟩, Ex.tr (fun a k ha => ?_) hT, Ex.othV (V' := wAdd V ln ag (fun k => (gL μ (4 + i) k).toInt.toNat)) hO ⟨?_, fun w hw => ?_⟩ ⟨?_, fun w hw => ?_⟩ ⟨?_, fun w hw => ?_⟩⟩
  · show gI ξ 133 0 = gI ξ 1 0
    rw [(G.1 133 (by simp)).1, (G.1 1 (by simp)).1]
    rfl
  · show gL ξ 133 2 = gL ξ 1 1
    rw [(G.1 133 (by simp)).2, (G.1 1 (by simp)).2]
    show gL ν 133 2 = gL ν 1 1
    rw [(F.1 133 (by simp)).2, (F.1 1 (by simp)).2]
    exact hS.2.1
  · show gL ξ 133 3 = gL ξ 1 2
    rw [(G.1 133 (by simp)).2, (G.1 1 (by simp)).2]
    show gL ν 133 3 = gL ν 1 2
    rw [(F.1 133 (by simp)).2, (F.1 1 (by simp)).2]
    exact hS.2.2
  · rcases (show a = 4 ∨ a = 5 ∨ a = 6 ∨ a = 7 ∨ a = 8 ∨ a = 9 ∨ a = 134 ∨ a = 135 ∨ a = 136 by omega) with rfl | rfl | rfl | rfl | rfl | rfl | rfl | rfl | rfl <;> rfl
  · rw [a1]
    omega
  · rw [a1] at hw
    by_cases e : w = wC V
    · subst e
      have em : wMany (wAdd V ln ag (fun k => (gL μ (4 + i) k).toInt.toNat)) (wC V) = n := by
        unfold wMany
        rw [a2]
        exact hn
      rw [em, a2, a3]
      refine ⟨hln, hag, fun k hk => ?_⟩
      rw [a4]
      obtain ⟨y, hy, -, e⟩ := hx k hk
      rw [e]
      split at hy <;> omega
    · obtain ⟨b1, b2, b3⟩ := a5 w e
      have em : wMany (wAdd V ln ag (fun k => (gL μ (4 + i) k).toInt.toNat)) w = wMany V w := by
        unfold wMany
        rw [b1]
      rw [em, b1, b2]
      have := hV.2 w (by omega)
      exact ⟨this.1, this.2.1, fun k hk => by rw [b3]; exact this.2.2 k hk⟩
  · show gI ξ 34 0 = nI (wC (wAdd V ln ag _))
    rw [a1, (G.1 34 (by simp)).1]
    rfl
  · rw [a1] at hw
    have c35 : ∀ j, gI (sI (sI (sI ξ 150 (wC V) (nI ln)) 152 (wC V) (nI ag)) 133 43 (nI (wC V + 1))) 35 j = if j = wC V then nI ln else gI μ 35 j := fun j => by
      show gI ξ 35 j = _
      rw [(G.1 35 (by simp)).1]
      show gI ν 35 j = _
      rw [(F.1 35 (by simp)).1, gI_sI, if_neg (by omega), gI_sI]
      by_cases e : j = wC V
      · rw [if_pos ⟨rfl, e⟩, if_pos e]
      · rw [if_neg (fun z => e z.2), if_neg e]
    have c36 : ∀ j, gI (sI (sI (sI ξ 150 (wC V) (nI ln)) 152 (wC V) (nI ag)) 133 43 (nI (wC V + 1))) 36 j = if j = wC V then nI ag else gI μ 36 j := fun j => by
      show gI ξ 36 j = _
      rw [(G.1 36 (by simp)).1]
      show gI ν 36 j = _
      rw [(F.1 36 (by simp)).1, gI_sI]
      by_cases e : j = wC V
      · rw [if_pos ⟨rfl, e⟩, if_pos e]
      · rw [if_neg (fun z => e z.2), if_neg e, gI_sI, if_neg (by omega)]
    have c37 : ∀ j, gI (sI (sI (sI ξ 150 (wC V) (nI ln)) 152 (wC V) (nI ag)) 133 43 (nI (wC V + 1))) 37 j = gI ν 37 j := fun j => by
      show gI ξ 37 j = _
      rw [(G.1 37 (by simp)).1]
      rfl
    rw [c35, c36]
    by_cases e : w = wC V
    · subst e
      have em : wMany (wAdd V ln ag (fun k => (gL μ (4 + i) k).toInt.toNat)) (wC V) = n := by
        unfold wMany
        rw [a2]
        exact hn
      rw [em, a2, a3, if_pos rfl, if_pos rfl]
      refine ⟨rfl, rfl, fun k hk => ?_⟩
      obtain ⟨y, hy, e1, e2⟩ := hx k hk
      rw [c37, f1 k hk, a4, e2, e1, lN_i]
    · obtain ⟨b1, b2, b3⟩ := a5 w e
      have em : wMany (wAdd V ln ag (fun k => (gL μ (4 + i) k).toInt.toNat)) w = wMany V w := by
        unfold wMany
        rw [b1]
      have hx2 := hX.2 w (by omega)
      have hv2 := hV.2 w (by omega)
      rw [em, b1, b2, if_neg e, if_neg e]
      refine ⟨hx2.1, hx2.2.1, fun k hk => ?_⟩
      have hk24 : k < 24 := by
        unfold wMany at hk
        split at hk <;> omega
      rw [c37, f2 _ (by omega), b3]
      exact hx2.2.2 k hk
  · show gI (sI (sI (sI ξ 150 (wC V) (nI ln)) 152 (wC V) (nI ag)) 133 43 (nI (wC V + 1))) 133 43 = nI (wC (wAdd V ln ag _))
    rw [a1, gI_sI, if_pos ⟨rfl, rfl⟩]
  · rw [a1] at hw
    have bas : ∀ a j, a ≠ 37 → a ≠ 35 → a ≠ 36 → a ≠ 34 → a ≠ 1 → a ≠ 133 → a ≠ 151 → gI ξ a j = gI μ a j := fun a j n1 n2 n3 n4 n5 n6 n7 => by
      rw [(G.1 a (by simpa using n7)).1, gI_sI, if_neg (by omega), gI_sI, if_neg (by omega), gI_sI, if_neg (by omega), gI_sI, if_neg (by omega), (F.1 a (by simpa using n1)).1, gI_sI, if_neg (by omega), gI_sI, if_neg (by omega)]
    have c35 : ∀ j, gI (sI (sI (sI ξ 150 (wC V) (nI ln)) 152 (wC V) (nI ag)) 133 43 (nI (wC V + 1))) 150 j = if j = wC V then nI ln else gI μ 150 j := fun j => by
      rw [gI_sI, if_neg (by omega), gI_sI, if_neg (by omega), gI_sI]
      by_cases e : j = wC V
      · rw [if_pos ⟨rfl, e⟩, if_pos e]
      · rw [if_neg (fun z => e z.2), if_neg e, bas _ _ (by omega) (by omega) (by omega) (by omega) (by omega) (by omega) (by omega)]
    have c36 : ∀ j, gI (sI (sI (sI ξ 150 (wC V) (nI ln)) 152 (wC V) (nI ag)) 133 43 (nI (wC V + 1))) 152 j = if j = wC V then nI ag else gI μ 152 j := fun j => by
      rw [gI_sI, if_neg (by omega), gI_sI]
      by_cases e : j = wC V
      · rw [if_pos ⟨rfl, e⟩, if_pos e]
      · rw [if_neg (fun z => e z.2), if_neg e, gI_sI, if_neg (by omega), bas _ _ (by omega) (by omega) (by omega) (by omega) (by omega) (by omega) (by omega)]
    have c37 : ∀ j, gI (sI (sI (sI ξ 150 (wC V) (nI ln)) 152 (wC V) (nI ag)) 133 43 (nI (wC V + 1))) 151 j = gI ξ 151 j := fun j => by
      rw [gI_sI, if_neg (by omega), gI_sI, if_neg (by omega), gI_sI, if_neg (by omega)]
    rw [c35, c36]
    by_cases e : w = wC V
    · subst e
      have em : wMany (wAdd V ln ag (fun k => (gL μ (4 + i) k).toInt.toNat)) (wC V) = n := by
        unfold wMany
        rw [a2]
        exact hn
      rw [em, a2, a3, if_pos rfl, if_pos rfl]
      refine ⟨rfl, rfl, fun k hk => ?_⟩
      obtain ⟨y, hy, e1, e2⟩ := hx k hk
      rw [c37, g1 k hk, a4, e2, heq k hk, e1, lN_i]
    · obtain ⟨b1, b2, b3⟩ := a5 w e
      have em : wMany (wAdd V ln ag (fun k => (gL μ (4 + i) k).toInt.toNat)) w = wMany V w := by
        unfold wMany
        rw [b1]
      have hx2 := hM.2 w (by omega)
      have hv2 := hV.2 w (by omega)
      rw [em, b1, b2, if_neg e, if_neg e]
      refine ⟨hx2.1, hx2.2.1, fun k hk => ?_⟩
      have hk24 : k < 24 := by
        unfold wMany at hk
        split at hk <;> omega
      rw [c37, g2 _ (by omega), b3]
      exact hx2.2.2 k hk
end JCX
