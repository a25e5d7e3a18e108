/-! feed -/
section JTB
variable {d L t : Nat} {μ : jMem} {Q : jQ}
/-- four bytes come behind n: the class's tape 11, the reference's 137 -/
def jby (x : Int32) (i : Nat) : Int32 := (x >>> (nI (24 - 8 * i) &&& 31)) &&& 255
theorem append_loop {x : Int32} {n0 : Nat} (hn0 : n0 + 4 ≤ 500) (hW : jWd L t μ) (ht : gI μ 10 1 = nI n0) : ∀ (m i : Nat) (ν : jMem), i + m = 4 → jFr [10, 11] μ ν → (∀ k, gI ν 10 k = if k = 1 then nI (n0 + i) else gI μ 10 k) → (∀ k, gI ν 11 k = if n0 ≤ k ∧ k < n0 + i then jby x (k - n0) else gI μ 11 k) → (∀ ν2, jFr [10, 11] μ ν2 → (∀ k, gI ν2 10 k = if k = 1 then nI (n0 + 4) else gI μ 10 k) → (∀ k, gI ν2 11 k = if n0 ≤ k ∧ k < n0 + 4 then jby x (k - n0) else gI μ 11 k) → Q none ν2) → jR d 41 3 [some (.ref 10), some (.int x), some (.int (nI 24 - nI (8 * i)))] [] (0, 0) ν Q := by
  intro m
  induction m with
  | zero =>
    intro i ν hi hF h1 h2 h
    have hi : i = 4 := by omega
    subst hi
    refine b41_3 ?_
    simp only [jx_blk, jx_op, j1i_c, j2i_c, j1l_c, j2l_c, jil_c, j1r_c, jri_c, jrii_c, jril_c, jrl_c, jrr_c, j2i'_c, jdup_i, jdup_r, jdup2_c, jdup2_l, jpo_c, jli, jll, jlr, jat_0, jat_s, jst, jst2, jkill_i, jkill_r, jkill_l, jkill_n, jnone, jgv_0, jgv_1, jgv_2, jgv_3, jrv_s, jput_0, jput_1, jput_2, jput_3, jpop_0, jpop_1, jcl_s, jc1, jc2, jvi, Nat.reduceAdd, jol_i, jol_l, jol_n, List.map_cons, List.map_nil, List.sum_cons, List.sum_nil, jcI, jcL, jcR, Nat.zero_le, true_and, and_true, and_self, Nat.reduceLeDiff, gI_sI, gI_sL, gI_sR, gL_sI, gL_sL, gL_sR, gR_sI, gR_sL, gR_sR, gS_sI, gS_sL, gS_sR, gN_sI, gN_sL, gN_sR, true_or, or_true, false_or, or_false, Nat.reduceEqDiff, false_and, and_false, if_false, if_true, reduceIte, not_true_eq_false, not_false_eq_true, true_imp_iff, false_imp_iff]
    refine br_t (by decide) (b41_56 ?_)
    simp only [jx_blk, jx_op, j1i_c, j2i_c, j1l_c, j2l_c, jil_c, j1r_c, jri_c, jrii_c, jril_c, jrl_c, jrr_c, j2i'_c, jdup_i, jdup_r, jdup2_c, jdup2_l, jpo_c, jli, jll, jlr, jat_0, jat_s, jst, jst2, jkill_i, jkill_r, jkill_l, jkill_n, jnone, jgv_0, jgv_1, jgv_2, jgv_3, jrv_s, jput_0, jput_1, jput_2, jput_3, jpop_0, jpop_1, jcl_s, jc1, jc2, jvi, Nat.reduceAdd, jol_i, jol_l, jol_n, List.map_cons, List.map_nil, List.sum_cons, List.sum_nil, jcI, jcL, jcR, Nat.zero_le, true_and, and_true, and_self, Nat.reduceLeDiff, gI_sI, gI_sL, gI_sR, gL_sI, gL_sL, gL_sR, gR_sI, gR_sL, gR_sR, gS_sI, gS_sL, gS_sR, gN_sI, gN_sL, gN_sR, true_or, or_true, false_or, or_false, Nat.reduceEqDiff, false_and, and_false, if_false, if_true, reduceIte, not_true_eq_false, not_false_eq_true, true_imp_iff, false_imp_iff]
    exact h ν hF h1 h2
  | succ m ih =>
    intro i ν hi hF h1 h2 h
    have hW2 := hF.wd hW
    have e : nI 24 - nI (8 * i) = nI (24 - 8 * i) := pk_sub (by omega)
    have t1 : gI ν 10 1 = nI (n0 + i) := by rw [h1, if_pos rfl]
    have g1 := jN (nI_pos (n := 24 - 8 * i) (by omega))
    have g2 := jN (nI_pos (n := n0 + i) (by omega))
    have g3 : ((500 : Int32) ≤ nI (n0 + i)) = False := jN (nI_ge (a := n0 + i) (b := 500) (by omega) (by omega))
    have g4 := jcl_n (k := n0 + i) (by omega)
    have g5 : vp_in (nI (n0 + i)) 500 := vp_in_nI (by omega) (by omega)
    rw [e]
    refine b41_3 ?_
    simp only [jx_blk, jx_op, j1i_c, j2i_c, j1l_c, j2l_c, jil_c, j1r_c, jri_c, jrii_c, jril_c, jrl_c, jrr_c, j2i'_c, jdup_i, jdup_r, jdup2_c, jdup2_l, jpo_c, jli, jll, jlr, jat_0, jat_s, jst, jst2, jkill_i, jkill_r, jkill_l, jkill_n, jnone, jgv_0, jgv_1, jgv_2, jgv_3, jrv_s, jput_0, jput_1, jput_2, jput_3, jpop_0, jpop_1, jcl_s, jc1, jc2, jvi, Nat.reduceAdd, jol_i, jol_l, jol_n, List.map_cons, List.map_nil, List.sum_cons, List.sum_nil, jcI, jcL, jcR, Nat.zero_le, true_and, and_true, and_self, Nat.reduceLeDiff, gI_sI, gI_sL, gI_sR, gL_sI, gL_sL, gL_sR, gR_sI, gR_sL, gR_sR, gS_sI, gS_sL, gS_sR, gN_sI, gN_sL, gN_sR, true_or, or_true, false_or, or_false, Nat.reduceEqDiff, false_and, and_false, if_false, if_true, reduceIte, not_true_eq_false, not_false_eq_true, true_imp_iff, false_imp_iff, jr_10_0 hW2, hW2.1, jS0_10, jS0_11, t1, g1, g2, g3, g4, g5, show ¬ (11 = 0) by decide, show ¬ (10 = 11) by decide, nI_1]
    refine b41_50 ?_
    simp only [jx_blk, jx_op, j1i_c, j2i_c, j1l_c, j2l_c, jil_c, j1r_c, jri_c, jrii_c, jril_c, jrl_c, jrr_c, j2i'_c, jdup_i, jdup_r, jdup2_c, jdup2_l, jpo_c, jli, jll, jlr, jat_0, jat_s, jst, jst2, jkill_i, jkill_r, jkill_l, jkill_n, jnone, jgv_0, jgv_1, jgv_2, jgv_3, jrv_s, jput_0, jput_1, jput_2, jput_3, jpop_0, jpop_1, jcl_s, jc1, jc2, jvi, Nat.reduceAdd, jol_i, jol_l, jol_n, List.map_cons, List.map_nil, List.sum_cons, List.sum_nil, jcI, jcL, jcR, Nat.zero_le, true_and, and_true, and_self, Nat.reduceLeDiff, gI_sI, gI_sL, gI_sR, gL_sI, gL_sL, gL_sR, gR_sI, gR_sL, gR_sR, gS_sI, gS_sL, gS_sR, gN_sI, gN_sL, gN_sR, true_or, or_true, false_or, or_false, Nat.reduceEqDiff, false_and, and_false, if_false, if_true, reduceIte, not_true_eq_false, not_false_eq_true, true_imp_iff, false_imp_iff]
    have e2 : nI (24 - 8 * i) + -8 = nI 24 - nI (8 * (i + 1)) := by
      have hb : i = 0 ∨ i = 1 ∨ i = 2 ∨ i = 3 := by omega
      rcases hb with rfl | rfl | rfl | rfl <;> decide
    rw [e2]
    refine ih (i + 1) _ (by omega) (hF.trans ((jFr.sI (by simp)).trans (jFr.sI (by simp)))) (fun k => ?_) (fun k => ?_) h
    · rw [gI_sI, gI_sI]
      by_cases hk : k = 1
      · rw [if_pos ⟨rfl, hk⟩, if_pos hk]; rfl
      · rw [if_neg (by omega), if_neg (by omega), h1, if_neg hk, if_neg hk]
    · rw [gI_sI, gI_sI]
      by_cases hk : k = n0 + i
      · rw [if_neg (by omega), if_pos ⟨rfl, hk⟩, if_pos (by omega)]
        rw [hk, show n0 + i - n0 = i by omega]
        rfl
      · rw [if_neg (by omega), if_neg (by omega), h2]
        by_cases hk2 : n0 ≤ k ∧ k < n0 + i
        · rw [if_pos hk2, if_pos (by omega)]
        · rw [if_neg hk2, if_neg (by omega)]
theorem sp_append {x : Int32} {n0 : Nat} (hn0 : n0 + 4 ≤ 500) (hW : jWd L t μ) (ht : gI μ 10 1 = nI n0) (h : ∀ ν2, jFr [10, 11] μ ν2 → (∀ k, gI ν2 10 k = if k = 1 then nI (n0 + 4) else gI μ 10 k) → (∀ k, gI ν2 11 k = if n0 ≤ k ∧ k < n0 + 4 then jby x (k - n0) else gI μ 11 k) → Q none ν2) : jC d 41 [.ref 10, .int x] μ Q := by
  refine e41 (b41_0 ?_)
  simp only [jx_blk, jx_op, j1i_c, j2i_c, j1l_c, j2l_c, jil_c, j1r_c, jri_c, jrii_c, jril_c, jrl_c, jrr_c, j2i'_c, jdup_i, jdup_r, jdup2_c, jdup2_l, jpo_c, jli, jll, jlr, jat_0, jat_s, jst, jst2, jkill_i, jkill_r, jkill_l, jkill_n, jnone, jgv_0, jgv_1, jgv_2, jgv_3, jrv_s, jput_0, jput_1, jput_2, jput_3, jpop_0, jpop_1, jcl_s, jc1, jc2, jvi, Nat.reduceAdd, jol_i, jol_l, jol_n, List.map_cons, List.map_nil, List.sum_cons, List.sum_nil, jcI, jcL, jcR, Nat.zero_le, true_and, and_true, and_self, Nat.reduceLeDiff, gI_sI, gI_sL, gI_sR, gL_sI, gL_sL, gL_sR, gR_sI, gR_sL, gR_sR, gS_sI, gS_sL, gS_sR, gN_sI, gN_sL, gN_sR, true_or, or_true, false_or, or_false, Nat.reduceEqDiff, false_and, and_false, if_false, if_true, reduceIte, not_true_eq_false, not_false_eq_true, true_imp_iff, false_imp_iff]
  exact append_loop hn0 hW ht 4 0 μ rfl jFr.rf (fun k => by
    by_cases hk : k = 1
    · rw [if_pos hk, hk, ht]; rfl
    · rw [if_neg hk]) (fun k => by rw [if_neg (by omega)]) h
/-- the reference's four bytes, with sign -/
def jbs (x : Int32) (i : Nat) : Int32 := (x >>> (nI 8 * nI (3 - i) &&& 31)).toInt8.toInt32
theorem mlay_loop {x : Int32} {n0 : Nat} (hn0 : n0 + 4 ≤ 500) (hW : jWd L t μ) : ∀ (m i : Nat) (ν : jMem), i + m = 4 → jFr [133, 137] μ ν → (∀ k, gI ν 133 k = if k = 8 then nI (n0 + i) else gI μ 133 k) → (∀ k, gL ν 133 k = gL μ 133 k) → (∀ k, gI ν 137 k = if n0 ≤ k ∧ k < n0 + i then jbs x (k - n0) else gI μ 137 k) → (∀ ν2, jFr [133, 137] μ ν2 → (∀ k, gI ν2 133 k = if k = 8 then nI (n0 + 4) else gI μ 133 k) → (∀ k, gL ν2 133 k = gL μ 133 k) → (∀ k, gI ν2 137 k = if n0 ≤ k ∧ k < n0 + 4 then jbs x (k - n0) else gI μ 137 k) → Q none ν2) → jR d 225 2 [some (.ref 133), some (.int x), some (.int (nI 3 - nI i))] [] (0, 0) ν Q := by
  intro m
  induction m with
  | zero =>
    intro i ν hi hF h1 hL h2 h
    have hi : i = 4 := by omega
    subst hi
    refine b225_2 ?_
    simp only [jx_blk, jx_op, j1i_c, j2i_c, j1l_c, j2l_c, jil_c, j1r_c, jri_c, jrii_c, jril_c, jrl_c, jrr_c, j2i'_c, jdup_i, jdup_r, jdup2_c, jdup2_l, jpo_c, jli, jll, jlr, jat_0, jat_s, jst, jst2, jkill_i, jkill_r, jkill_l, jkill_n, jnone, jgv_0, jgv_1, jgv_2, jgv_3, jrv_s, jput_0, jput_1, jput_2, jput_3, jpop_0, jpop_1, jcl_s, jc1, jc2, jvi, Nat.reduceAdd, jol_i, jol_l, jol_n, List.map_cons, List.map_nil, List.sum_cons, List.sum_nil, jcI, jcL, jcR, Nat.zero_le, true_and, and_true, and_self, Nat.reduceLeDiff, gI_sI, gI_sL, gI_sR, gL_sI, gL_sL, gL_sR, gR_sI, gR_sL, gR_sR, gS_sI, gS_sL, gS_sR, gN_sI, gN_sL, gN_sR, true_or, or_true, false_or, or_false, Nat.reduceEqDiff, false_and, and_false, if_false, if_true, reduceIte, not_true_eq_false, not_false_eq_true, true_imp_iff, false_imp_iff]
    refine br_t (by decide) (b225_38 ?_)
    simp only [jx_blk, jx_op, j1i_c, j2i_c, j1l_c, j2l_c, jil_c, j1r_c, jri_c, jrii_c, jril_c, jrl_c, jrr_c, j2i'_c, jdup_i, jdup_r, jdup2_c, jdup2_l, jpo_c, jli, jll, jlr, jat_0, jat_s, jst, jst2, jkill_i, jkill_r, jkill_l, jkill_n, jnone, jgv_0, jgv_1, jgv_2, jgv_3, jrv_s, jput_0, jput_1, jput_2, jput_3, jpop_0, jpop_1, jcl_s, jc1, jc2, jvi, Nat.reduceAdd, jol_i, jol_l, jol_n, List.map_cons, List.map_nil, List.sum_cons, List.sum_nil, jcI, jcL, jcR, Nat.zero_le, true_and, and_true, and_self, Nat.reduceLeDiff, gI_sI, gI_sL, gI_sR, gL_sI, gL_sL, gL_sR, gR_sI, gR_sL, gR_sR, gS_sI, gS_sL, gS_sR, gN_sI, gN_sL, gN_sR, true_or, or_true, false_or, or_false, Nat.reduceEqDiff, false_and, and_false, if_false, if_true, reduceIte, not_true_eq_false, not_false_eq_true, true_imp_iff, false_imp_iff]
    exact h ν hF h1 hL h2
  | succ m ih =>
    intro i ν hi hF h1 hL h2 h
    have hW2 := hF.wd hW
    have e : nI 3 - nI i = nI (3 - i) := pk_sub (by omega)
    have t1 : gI ν 133 8 = nI (n0 + i) := by rw [h1, if_pos rfl]
    have g1 := jN (nI_pos (n := 3 - i) (by omega))
    have g4 := jcl_n (k := n0 + i) (by omega)
    have g5 : vp_in (nI (n0 + i)) 500 := vp_in_nI (by omega) (by omega)
    rw [e]
    refine b225_2 ?_
    simp only [jx_blk, jx_op, j1i_c, j2i_c, j1l_c, j2l_c, jil_c, j1r_c, jri_c, jrii_c, jril_c, jrl_c, jrr_c, j2i'_c, jdup_i, jdup_r, jdup2_c, jdup2_l, jpo_c, jli, jll, jlr, jat_0, jat_s, jst, jst2, jkill_i, jkill_r, jkill_l, jkill_n, jnone, jgv_0, jgv_1, jgv_2, jgv_3, jrv_s, jput_0, jput_1, jput_2, jput_3, jpop_0, jpop_1, jcl_s, jc1, jc2, jvi, Nat.reduceAdd, jol_i, jol_l, jol_n, List.map_cons, List.map_nil, List.sum_cons, List.sum_nil, jcI, jcL, jcR, Nat.zero_le, true_and, and_true, and_self, Nat.reduceLeDiff, gI_sI, gI_sL, gI_sR, gL_sI, gL_sL, gL_sR, gR_sI, gR_sL, gR_sR, gS_sI, gS_sL, gS_sR, gN_sI, gN_sL, gN_sR, true_or, or_true, false_or, or_false, Nat.reduceEqDiff, false_and, and_false, if_false, if_true, reduceIte, not_true_eq_false, not_false_eq_true, true_imp_iff, false_imp_iff, jr_133_4 hW2, jr_133_5 hW2, jr_133_6 hW2, jr_133_7 hW2, jr_133_31 hW2, jr_133_32 hW2, jr_133_33 hW2, jr_133_34 hW2, jr_133_35 hW2, jr_133_36 hW2, jr_133_37 hW2, jr_133_38 hW2, jr_133_39 hW2, jr_133_40 hW2, jr_133_41 hW2, jr_133_42 hW2, jr_133_44 hW2, jr_133_45 hW2, jr_133_46 hW2, jr_133_47 hW2, jr_133_48 hW2, jr_133_49 hW2, jr_133_50 hW2, jr_133_51 hW2, jr_133_55 hW2, jr_133_56 hW2, jr_133_57 hW2, jr_133_58 hW2, jr_133_62 hW2, jr_133_65 hW2, jr_133_66 hW2, jr_133_67 hW2, jr_133_68 hW2, jr_133_69 hW2, jr_133_70 hW2, jr_133_71 hW2, jr_133_74 hW2, jr_133_75 hW2, hW2.1, jS0_133, jS0_134, jS0_135, jS0_136, jS0_137, jS0_138, jS0_139, jS0_140, jS0_141, jS0_142, jS0_143, jS0_144, jS0_145, jS0_146, jS0_147, jS0_148, jS0_149, jS0_150, jS0_151, jS0_152, jS0_153, jS0_154, jS0_155, jS0_156, jS0_157, jS0_158, jS0_159, jS0_160, jS0_161, jS0_162, jS0_163, jS0_164, jS0_165, jS0_166, jS0_167, jS0_168, jS0_169, jS0_170, jS0_171, t1, g1, g4, g5, show ¬ (133 = 137) by decide, nI_1]
    refine And.intro (by simp) ?_
    have e2 : nI (3 - i) + -1 = nI 3 - nI (i + 1) := by
      have hb : i = 0 ∨ i = 1 ∨ i = 2 ∨ i = 3 := by omega
      rcases hb with rfl | rfl | rfl | rfl <;> decide
    rw [e2]
    refine ih (i + 1) _ (by omega) (hF.trans ((jFr.sI (by simp)).trans (jFr.sI (by simp)))) (fun k => ?_) (fun k => hL k) (fun k => ?_) h
    · rw [gI_sI, gI_sI]
      by_cases hk : k = 8
      · rw [if_pos ⟨rfl, hk⟩, if_pos hk]; rfl
      · rw [if_neg (by omega), if_neg (by omega), h1, if_neg hk, if_neg hk]
    · rw [gI_sI, gI_sI]
      by_cases hk : k = n0 + i
      · rw [if_neg (by omega), if_pos ⟨rfl, hk⟩, if_pos (by omega)]
        rw [hk, show n0 + i - n0 = i by omega]
        rfl
      · rw [if_neg (by omega), if_neg (by omega), h2]
        by_cases hk2 : n0 ≤ k ∧ k < n0 + i
        · rw [if_pos hk2, if_pos (by omega)]
        · rw [if_neg hk2, if_neg (by omega)]
end JTB
