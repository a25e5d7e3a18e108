/-! feed -/
section JTB
variable {d L t : Nat} {μ : jMem} {Q : jQ}
/-- four bytes come behind n: the class's tape 11, the reference's 137 -/
def jby (x : Int32) (i : Nat) : Int32 := (x >>> (nI (24 - 8 * i) &&& 31)) &&& 255
theorem append_loop {x : Int32} {n0 : Nat} (hn0 : n0 + 4 ≤ 500) (hW : jWd L t μ) (ht : gI μ 10 1 = nI n0) : ∀ (m i : Nat) (ν : jMem), i + m = 4 → jFr [10, 11] μ ν → (∀ k, gI ν 10 k = if k = 1 then nI (n0 + i) else gI μ 10 k) → (∀ k, gI ν 11 k = if n0 ≤ k ∧ k < n0 + i then jby x (k - n0) else gI μ 11 k) → (∀ ν2, jFr [10, 11] μ ν2 → (∀ k, gI ν2 10 k = if k = 1 then nI (n0 + 4) else gI μ 10 k) → (∀ k, gI ν2 11 k = if n0 ≤ k ∧ k < n0 + 4 then jby x (k - n0) else gI μ 11 k) → Q none ν2) → jR d 41 3 [some (.ref 10), some (.int x), some (.int (nI 24 - nI (8 * i)))] [] (0, 0) ν Q := by
  intro m
  induction m with
  | zero =>
    intro i ν hi hF h1 h2 h
    have hi : i = 4 := by omega
    subst hi
    refine b41_3 ?_
    simp only [jx_blk, jx_op, j1i_c, j2i_c, j1l_c, j2l_c, jil_c, j1r_c, jri_c, jrii_c, jril_c, jrl_c, jrr_c, j2i'_c, jdup_i, jdup_r, jdup2_c, jdup2_l, jpo_c, jli, jll, jlr, jat_0, jat_s, jst, jst2, jkill_i, jkill_r, jkill_l, jkill_n, jnone, jgv_0, jgv_1, jgv_2, jgv_3, jrv_s, jput_0, jput_1, jput_2, jput_3, jpop_0, jpop_1, jcl_s, jc1, jc2, jvi, Nat.reduceAdd, jol_i, jol_l, jol_n, List.map_cons, List.map_nil, List.sum_cons, List.sum_nil, jcI, jcL, jcR, Nat.zero_le, true_and, and_true, and_self, Nat.reduceLeDiff, gI_sI, gI_sL, gI_sR, gL_sI, gL_sL, gL_sR, gR_sI, gR_sL, gR_sR, gS_sI, gS_sL, gS_sR, gN_sI, gN_sL, gN_sR, true_or, or_true, false_or, or_false, Nat.reduceEqDiff, false_and, and_false, if_false, if_true, reduceIte, not_true_eq_false, not_false_eq_true, true_imp_iff, false_imp_iff]
    refine br_t (by decide) (b41_56 ?_)
    simp only [jx_blk, jx_op, j1i_c, j2i_c, j1l_c, j2l_c, jil_c, j1r_c, jri_c, jrii_c, jril_c, jrl_c, jrr_c, j2i'_c, jdup_i, jdup_r, jdup2_c, jdup2_l, jpo_c, jli, jll, jlr, jat_0, jat_s, jst, jst2, jkill_i, jkill_r, jkill_l, jkill_n, jnone, jgv_0, jgv_1, jgv_2, jgv_3, jrv_s, jput_0, jput_1, jput_2, jput_3, jpop_0, jpop_1, jcl_s, jc1, jc2, jvi, Nat.reduceAdd, jol_i, jol_l, jol_n, List.map_cons, List.map_nil, List.sum_cons, List.sum_nil, jcI, jcL, jcR, Nat.zero_le, true_and, and_true, and_self, Nat.reduceLeDiff, gI_sI, gI_sL, gI_sR, gL_sI, gL_sL, gL_sR, gR_sI, gR_sL, gR_sR, gS_sI, gS_sL, gS_sR, gN_sI, gN_sL, gN_sR, true_or, or_true, false_or, or_false, Nat.reduceEqDiff, false_and, and_false, if_false, if_true, reduceIte, not_true_eq_false, not_false_eq_true, true_imp_iff, false_imp_iff]
    exact h ν hF h1 h2
  | succ m ih =>
    intro i ν hi hF h1 h2 h
    have hW2 := hF.wd hW
    have e : nI 24 - nI (8 * i) = nI (24 - 8 * i) := pk_sub (by omega)
    have t1 : gI ν 10 1 = nI (n0 + i) := by rw [h1, if_pos rfl]
    have g1 := jN (nI_pos (n := 24 - 8 * i) (by omega))
    have g2 := jN (nI_pos (n := n0 + i) (by omega))
    have g3 : ((500 : Int32) ≤ nI (n0 + i)) = False := jN (nI_ge (a := n0 + i) (b := 500) (by omega) (by omega))
    have g4 := jcl_n (k := n0 + i) (by omega)
    have g5 : vp_in (nI (n0 + i)) 500 := vp_in_nI (by omega) (by omega)
    rw [e]
    refine b41_3 ?_
    simp only [jx_blk, jx_op, j1i_c, j2i_c, j1l_c, j2l_c, jil_c, j1r_c, jri_c, jrii_c, jril_c, jrl_c, jrr_c, j2i'_c, jdup_i, jdup_r, jdup2_c, jdup2_l, jpo_c, jli, jll, jlr, jat_0, jat_s, jst, jst2, jkill_i, jkill_r, jkill_l, jkill_n, jnone, jgv_0, jgv_1, jgv_2, jgv_3, jrv_s, jput_0, jput_1, jput_2, jput_3, jpop_0, jpop_1, jcl_s, jc1, jc2, jvi, Nat.reduceAdd, jol_i, jol_l, jol_n, List.map_cons, List.map_nil, List.sum_cons, List.sum_nil, jcI, jcL, jcR, Nat.zero_le, true_and, and_true, and_self, Nat.reduceLeDiff, gI_sI, gI_sL, gI_sR, gL_sI, gL_sL, gL_sR, gR_sI, gR_sL, gR_sR, gS_sI, gS_sL, gS_sR, gN_sI, gN_sL, gN_sR, true_or, or_true, false_or, or_false, Nat.reduceEqDiff, false_and, and_false, if_false, if_true, reduceIte, not_true_eq_false, not_false_eq_true, true_imp_iff, false_imp_iff, jr_10_0 hW2, hW2.1, jS0_10, jS0_11, t1, g1, g2, g3, g4, g5, show ¬ (11 = 0) by decide, show ¬ (10 = 11) by decide, nI_1]
    refine b41_50 ?_
    simp only [jx_blk, jx_op, j1i_c, j2i_c, j1l_c, j2l_c, jil_c, j1r_c, jri_c, jrii_c, jril_c, jrl_c, jrr_c, j2i'_c, jdup_i, jdup_r, jdup2_c, jdup2_l, jpo_c, jli, jll, jlr, jat_0, jat_s, jst, jst2, jkill_i, jkill_r, jkill_l, jkill_n, jnone, jgv_0, jgv_1, jgv_2, jgv_3, jrv_s, jput_0, jput_1, jput_2, jput_3, jpop_0, jpop_1, jcl_s, jc1, jc2, jvi, Nat.reduceAdd, jol_i, jol_l, jol_n, List.map_cons, List.map_nil, List.sum_cons, List.sum_nil, jcI, jcL, jcR, Nat.zero_le, true_and, and_true, and_self, Nat.reduceLeDiff, gI_sI, gI_sL, gI_sR, gL_sI, gL_sL, gL_sR, gR_sI, gR_sL, gR_sR, gS_sI, gS_sL, gS_sR, gN_sI, gN_sL, gN_sR, true_or, or_true, false_or, or_false, Nat.reduceEqDiff, false_and, and_false, if_false, if_true, reduceIte, not_true_eq_false, not_false_eq_true, true_imp_iff, false_imp_iff]
    have e2 : nI (24 - 8 * i) + -8 = nI 24 - nI (8 * (i + 1)) := by
      have hb : i = 0 ∨ i = 1 ∨ i = 2 ∨ i = 3 := by omega
      rcases hb with rfl | rfl | rfl | rfl <;> decide
    rw [e2]
    refine ih (i + 1) _ (by omega) (hF.trans ((jFr.sI (by simp)).trans (jFr.sI (by simp)))) (fun k => ?_) (fun k => ?_) h
    · rw [gI_sI, gI_sI]
      by_cases hk : k = 1
      · rw [if_pos ⟨rfl, hk⟩, if_pos hk]; rfl
      · rw [if_neg (by omega), if_neg (by omega), h1, if_neg hk, if_neg hk]
    · rw [gI_sI, gI_sI]
      by_cases hk : k = n0 + i
      · rw [if_neg (by omega), if_pos ⟨rfl, hk⟩, if_pos (by omega)]
        rw [hk, show n0 + i - n0 = i by omega]
        rfl
      · rw [if_neg (by omega), if_neg (by omega), h2]
        by_cases hk2 : n0 ≤ k ∧ k < n0 + i
        · rw [if_pos hk2, if_pos (by omega)]
        · rw [if_neg hk2, if_neg (by omega)]
theorem sp_append {x : Int32} {n0 : Nat} (hn0 : n0 + 4 ≤ 500) (hW : jWd L t μ) (ht : gI μ 10 1 = nI n0) (h : ∀ ν2, jFr [10, 11] μ ν2 → (∀ k, gI ν2 10 k = if k = 1 then nI (n0 + 4) else gI μ 10 k) → (∀ k, gI ν2 11 k = if n0 ≤ k ∧ k < n0 + 4 then jby x (k - n0) else gI μ 11 k) → Q none ν2) : jC d 41 [.ref 10, .int x] μ Q := by
  refine e41 (b41_0 ?_)
  simp only [jx_blk, jx_op, j1i_c, j2i_c, j1l_c, j2l_c, jil_c, j1r_c, jri_c, jrii_c, jril_c, jrl_c, jrr_c, j2i'_c, jdup_i, jdup_r, jdup2_c, jdup2_l, jpo_c, jli, jll, jlr, jat_0, jat_s, jst, jst2, jkill_i, jkill_r, jkill_l, jkill_n, jnone, jgv_0, jgv_1, jgv_2, jgv_3, jrv_s, jput_0, jput_1, jput_2, jput_3, jpop_0, jpop_1, jcl_s, jc1, jc2, jvi, Nat.reduceAdd, jol_i, jol_l, jol_n, List.map_cons, List.map_nil, List.sum_cons, List.sum_nil, jcI, jcL, jcR, Nat.zero_le, true_and, and_true, and_self, Nat.reduceLeDiff, gI_sI, gI_sL, gI_sR, gL_sI, gL_sL, gL_sR, gR_sI, gR_sL, gR_sR, gS_sI, gS_sL, gS_sR, gN_sI, gN_sL, gN_sR, true_or, or_true, false_or, or_false, Nat.reduceEqDiff, false_and, and_false, if_false, if_true, reduceIte, not_true_eq_false, not_false_eq_true, true_imp_iff, false_imp_iff]
  exact append_loop hn0 hW ht 4 0 μ rfl jFr.rf (fun k => by
    by_cases hk : k = 1
    · rw [if_pos hk, hk, ht]; rfl
    · rw [if_neg hk]) (fun k => by rw [if_neg (by omega)]) h
/-- the reference's four bytes, with sign -/
def jbs (x : Int32) (i : Nat) : Int32 := (x >>> (nI 8 * nI (3 - i) &&& 31)).toInt8.toInt32
theorem mlay_loop {x : Int32} {n0 : Nat} (hn0 : n0 + 4 ≤ 500) (hW : jWd L t μ) : ∀ (m i : Nat) (ν : jMem), i + m = 4 → jFr [133, 137] μ ν → (∀ k, gI ν 133 k = if k = 8 then nI (n0 + i) else gI μ 133 k) → (∀ k, gL ν 133 k = gL μ 133 k) → (∀ k, gI ν 137 k = if n0 ≤ k ∧ k < n0 + i then jbs x (k - n0) else gI μ 137 k) → (∀ ν2, jFr [133, 137] μ ν2 → (∀ k, gI ν2 133 k = if k = 8 then nI (n0 + 4) else gI μ 133 k) → (∀ k, gL ν2 133 k = gL μ 133 k) → (∀ k, gI ν2 137 k = if n0 ≤ k ∧ k < n0 + 4 then jbs x (k - n0) else gI μ 137 k) → Q none ν2) → jR d 225 2 [some (.ref 133), some (.int x), some (.int (nI 3 - nI i))] [] (0, 0) ν Q := by
  intro m
  induction m with
  | zero =>
    intro i ν hi hF h1 hL h2 h
    have hi : i = 4 := by omega
    subst hi
    refine b225_2 ?_
    simp only [jx_blk, jx_op, j1i_c, j2i_c, j1l_c, j2l_c, jil_c, j1r_c, jri_c, jrii_c, jril_c, jrl_c, jrr_c, j2i'_c, jdup_i, jdup_r, jdup2_c, jdup2_l, jpo_c, jli, jll, jlr, jat_0, jat_s, jst, jst2, jkill_i, jkill_r, jkill_l, jkill_n, jnone, jgv_0, jgv_1, jgv_2, jgv_3, jrv_s, jput_0, jput_1, jput_2, jput_3, jpop_0, jpop_1, jcl_s, jc1, jc2, jvi, Nat.reduceAdd, jol_i, jol_l, jol_n, List.map_cons, List.map_nil, List.sum_cons, List.sum_nil, jcI, jcL, jcR, Nat.zero_le, true_and, and_true, and_self, Nat.reduceLeDiff, gI_sI, gI_sL, gI_sR, gL_sI, gL_sL, gL_sR, gR_sI, gR_sL, gR_sR, gS_sI, gS_sL, gS_sR, gN_sI, gN_sL, gN_sR, true_or, or_true, false_or, or_false, Nat.reduceEqDiff, false_and, and_false, if_false, if_true, reduceIte, not_true_eq_false, not_false_eq_true, true_imp_iff, false_imp_iff]
    refine br_t (by decide) (b225_38 ?_)
    simp only [jx_blk, jx_op, j1i_c, j2i_c, j1l_c, j2l_c, jil_c, j1r_c, jri_c, jrii_c, jril_c, jrl_c, jrr_c, j2i'_c, jdup_i, jdup_r, jdup2_c, jdup2_l, jpo_c, jli, jll, jlr, jat_0, jat_s, jst, jst2, jkill_i, jkill_r, jkill_l, jkill_n, jnone, jgv_0, jgv_1, jgv_2, jgv_3, jrv_s, jput_0, jput_1, jput_2, jput_3, jpop_0, jpop_1, jcl_s, jc1, jc2, jvi, Nat.reduceAdd, jol_i, jol_l, jol_n, List.map_cons, List.map_nil, List.sum_cons, List.sum_nil, jcI, jcL, jcR, Nat.zero_le, true_and, and_true, and_self, Nat.reduceLeDiff, gI_sI, gI_sL, gI_sR, gL_sI, gL_sL, gL_sR, gR_sI, gR_sL, gR_sR, gS_sI, gS_sL, gS_sR, gN_sI, gN_sL, gN_sR, true_or, or_true, false_or, or_false, Nat.reduceEqDiff, false_and, and_false, if_false, if_true, reduceIte, not_true_eq_false, not_false_eq_true, true_imp_iff, false_imp_iff]
    exact h ν hF h1 hL h2
  | succ m ih =>
    intro i ν hi hF h1 hL h2 h
    have hW2 := hF.wd hW
    have e : nI 3 - nI i = nI (3 - i) := pk_sub (by omega)
    have t1 : gI ν 133 8 = nI (n0 + i) := by rw [h1, if_pos rfl]
    have g1 := jN (nI_pos (n := 3 - i) (by omega))
    have g4 := jcl_n (k := n0 + i) (by omega)
    have g5 : vp_in (nI (n0 + i)) 500 := vp_in_nI (by omega) (by omega)
    rw [e]
    refine b225_2 ?_
    simp only [jx_blk, jx_op, j1i_c, j2i_c, j1l_c, j2l_c, jil_c, j1r_c, jri_c, jrii_c, jril_c, jrl_c, jrr_c, j2i'_c, jdup_i, jdup_r, jdup2_c, jdup2_l, jpo_c, jli, jll, jlr, jat_0, jat_s, jst, jst2, jkill_i, jkill_r, jkill_l, jkill_n, jnone, jgv_0, jgv_1, jgv_2, jgv_3, jrv_s, jput_0, jput_1, jput_2, jput_3, jpop_0, jpop_1, jcl_s, jc1, jc2, jvi, Nat.reduceAdd, jol_i, jol_l, jol_n, List.map_cons, List.map_nil, List.sum_cons, List.sum_nil, jcI, jcL, jcR, Nat.zero_le, true_and, and_true, and_self, Nat.reduceLeDiff, gI_sI, gI_sL, gI_sR, gL_sI, gL_sL, gL_sR, gR_sI, gR_sL, gR_sR, gS_sI, gS_sL, gS_sR, gN_sI, gN_sL, gN_sR, true_or, or_true, false_or, or_false, Nat.reduceEqDiff, false_and, and_false, if_false, if_true, reduceIte, not_true_eq_false, not_false_eq_true, true_imp_iff, false_imp_iff, jr_133_4 hW2, jr_133_5 hW2, jr_133_6 hW2, jr_133_7 hW2, jr_133_31 hW2, jr_133_32 hW2, jr_133_33 hW2, jr_133_34 hW2, jr_133_35 hW2, jr_133_36 hW2, jr_133_37 hW2, jr_133_38 hW2, jr_133_39 hW2, jr_133_40 hW2, jr_133_41 hW2, jr_133_42 hW2, jr_133_44 hW2, jr_133_45 hW2, jr_133_46 hW2, jr_133_47 hW2, jr_133_48 hW2, jr_133_49 hW2, jr_133_50 hW2, jr_133_51 hW2, jr_133_55 hW2, jr_133_56 hW2, jr_133_57 hW2, jr_133_58 hW2, jr_133_62 hW2, jr_133_65 hW2, jr_133_66 hW2, jr_133_67 hW2, jr_133_68 hW2, jr_133_69 hW2, jr_133_70 hW2, jr_133_71 hW2, jr_133_74 hW2, jr_133_75 hW2, hW2.1, jS0_133, jS0_134, jS0_135, jS0_136, jS0_137, jS0_138, jS0_139, jS0_140, jS0_141, jS0_142, jS0_143, jS0_144, jS0_145, jS0_146, jS0_147, jS0_148, jS0_149, jS0_150, jS0_151, jS0_152, jS0_153, jS0_154, jS0_155, jS0_156, jS0_157, jS0_158, jS0_159, jS0_160, jS0_161, jS0_162, jS0_163, jS0_164, jS0_165, jS0_166, jS0_167, jS0_168, jS0_169, jS0_170, jS0_171, t1, g1, g4, g5, show ¬ (133 = 137) by decide, nI_1]
    refine And.intro (by simp) ?_
    have e2 : nI (3 - i) + -1 = nI 3 - nI (i + 1) := by
      have hb : i = 0 ∨ i = 1 ∨ i = 2 ∨ i = 3 := by omega
      rcases hb with rfl | rfl | rfl | rfl <;> decide
    rw [e2]
    refine ih (i + 1) _ (by omega) (hF.trans ((jFr.sI (by simp)).trans (jFr.sI (by simp)))) (fun k => ?_) (fun k => hL k) (fun k => ?_) h
    · rw [gI_sI, gI_sI]
      by_cases hk : k = 8
      · rw [if_pos ⟨rfl, hk⟩, if_pos hk]; rfl
      · rw [if_neg (by omega), if_neg (by omega), h1, if_neg hk, if_neg hk]
    · rw [gI_sI, gI_sI]
      by_cases hk : k = n0 + i
      · rw [if_neg (by omega), if_pos ⟨rfl, hk⟩, if_pos (by omega)]
        rw [hk, show n0 + i - n0 = i by omega]
        rfl
      · rw [if_neg (by omega), if_neg (by omega), h2]
        by_cases hk2 : n0 ≤ k ∧ k < n0 + i
        · rw [if_pos hk2, if_pos (by omega)]
        · rw [if_neg hk2, if_neg (by omega)]
theorem sp_mlay {x : Int32} {n0 : Nat} (hn0 : n0 + 4 ≤ 500) (hW : jWd L t μ) (ht : gI μ 133 8 = nI n0) (h : ∀ ν2, jFr [133, 137] μ ν2 → (∀ k, gI ν2 133 k = if k = 8 then nI (n0 + 4) else gI μ 133 k) → (∀ k, gL ν2 133 k = gL μ 133 k) → (∀ k, gI ν2 137 k = if n0 ≤ k ∧ k < n0 + 4 then jbs x (k - n0) else gI μ 137 k) → Q none ν2) : jC d 225 [.ref 133, .int x] μ Q := by
  refine e225 (b225_0 ?_)
  simp only [jx_blk, jx_op, j1i_c, j2i_c, j1l_c, j2l_c, jil_c, j1r_c, jri_c, jrii_c, jril_c, jrl_c, jrr_c, j2i'_c, jdup_i, jdup_r, jdup2_c, jdup2_l, jpo_c, jli, jll, jlr, jat_0, jat_s, jst, jst2, jkill_i, jkill_r, jkill_l, jkill_n, jnone, jgv_0, jgv_1, jgv_2, jgv_3, jrv_s, jput_0, jput_1, jput_2, jput_3, jpop_0, jpop_1, jcl_s, jc1, jc2, jvi, Nat.reduceAdd, jol_i, jol_l, jol_n, List.map_cons, List.map_nil, List.sum_cons, List.sum_nil, jcI, jcL, jcR, Nat.zero_le, true_and, and_true, and_self, Nat.reduceLeDiff, gI_sI, gI_sL, gI_sR, gL_sI, gL_sL, gL_sR, gR_sI, gR_sL, gR_sR, gS_sI, gS_sL, gS_sR, gN_sI, gN_sL, gN_sR, true_or, or_true, false_or, or_false, Nat.reduceEqDiff, false_and, and_false, if_false, if_true, reduceIte, not_true_eq_false, not_false_eq_true, true_imp_iff, false_imp_iff]
  exact mlay_loop hn0 hW 4 0 μ rfl jFr.rf (fun k => by
    by_cases hk : k = 8
    · rw [if_pos hk, hk, ht]; rfl
    · rw [if_neg hk]) (fun k => rfl) (fun k => by rw [if_neg (by omega)]) h
theorem jby_jbs (x : Int32) (i : Nat) (hi : i < 4) : jby x i = jbs x i &&& 255 ∧ ∃ b, b < 256 ∧ jby x i = nI b := by
  constructor
  · unfold jby jbs
    have e : nI 8 * nI (3 - i) &&& 31 = nI (24 - 8 * i) &&& 31 := by
      rcases (show i = 0 ∨ i = 1 ∨ i = 2 ∨ i = 3 by omega) with rfl | rfl | rfl | rfl <;> decide
    rw [e]
    generalize x >>> (nI (24 - 8 * i) &&& 31) = y
    apply Int32.toBitVec_inj.mp
    apply BitVec.eq_of_getLsbD_eq
    intro i hi
    have h255 : ∀ i, i < 32 → 8 ≤ i → (255#32).getLsbD i = false := by decide
    have e5 : (255 : Int32).toBitVec = 255#32 := by decide
    rw [Int32.toBitVec_and, Int32.toBitVec_and, e5, Int8.toBitVec_toInt32, Int32.toBitVec_toInt8]
    rw [BitVec.getLsbD_and, BitVec.getLsbD_and]
    by_cases h8 : i < 8
    · rw [BitVec.getLsbD_signExtend, if_pos h8, BitVec.getLsbD_signExtend, if_pos (by omega)]
      simp [hi, h8]
    · rw [h255 i hi (by omega), Bool.and_false, Bool.and_false]
  · unfold jby
    generalize x >>> (nI (24 - 8 * i) &&& 31) = y
    refine ⟨(y.toBitVec &&& 255#32).toNat, ?_, ?_⟩
    · rw [BitVec.toNat_and]
      exact Nat.lt_of_le_of_lt Nat.and_le_right (by decide)
    · apply Int32.toBitVec_inj.mp
      show y.toBitVec &&& 255#32 = BitVec.ofNat 32 _
      rw [BitVec.ofNat_toNat, BitVec.setWidth_eq]
def jfe (f : Int32 → Nat → Int32) : Nat → List Int32 → (Nat → Int32) → Nat → Int32
  | _, [], g => g
  | n, x :: xs, g => jfe f (n + 4) xs (fun k => if n ≤ k ∧ k < n + 4 then f x (k - n) else g k)
theorem jfe_eq : ∀ (xs : List Int32) (n : Nat) (g g' : Nat → Int32), (∀ k, k < n → g k = g' k &&& 255 ∧ ∃ b, b < 256 ∧ g k = nI b) → ∀ k, k < n + 4 * xs.length → jfe jby n xs g k = jfe jbs n xs g' k &&& 255 ∧ ∃ b, b < 256 ∧ jfe jby n xs g k = nI b
  | [], n, g, g', h, k, hk => h k hk
  | x :: xs, n, g, g', h, k, hk => jfe_eq xs (n + 4) _ _ (fun j hj => by
      by_cases hc : n ≤ j ∧ j < n + 4
      · simp only [if_pos hc]
        exact jby_jbs x (j - n) (by omega)
      · simp only [if_neg hc]
        exact h j (by omega)) k (by simp only [List.length_cons] at hk; omega)
theorem sX_feed {x1 x2 x3 x4 x5 : Int32} {n : Nat} (hn : n ≤ 500) (hW : jWd L t μ) (ht : gI μ 10 1 = nI n) (h0 : ¬ n + 20 ≤ 500 → Q (some (.int (-1))) μ) (h : n + 20 ≤ 500 → ∀ ν, jFr [10, 11] μ ν → (∀ k, gI ν 10 k = if k = 1 then nI (n + 20) else gI μ 10 k) → (∀ k, gI ν 11 k = jfe jby n [x1, x2, x3, x4, x5] (gI μ 11) k) → Q (some (.int (nI (n + 20)))) ν) : jC (d + 1) 146 [.ref 1, .int x1, .int x2, .int x3, .int x4, .int x5] μ Q := by
  refine e146 (b146_0 ?_)
  have e20 : (4 : Int32) * 5 = nI 20 := by decide
  have g1 : ((500 : Int32) < nI n + nI 20) = (¬ n + 20 ≤ 500) := by
    rw [nI_add, li_500]
    refine propext ⟨fun q c => ?_, fun q => nI_lt (by omega) (by omega)⟩
    have := nI_le (a := n + 20) (b := 500) (by omega) (by omega)
    grind
  by_cases hc : n + 20 ≤ 500
  case neg =>
    repeat' (first | refine e40 (b40_0 ?_) | refine b40_18 ?_ | refine b40_19 ?_ | simp only [jx_blk, jx_op, j1i_c, j2i_c, j1l_c, j2l_c, jil_c, j1r_c, jri_c, jrii_c, jril_c, jrl_c, jrr_c, j2i'_c, jdup_i, jdup_r, jdup2_c, jdup2_l, jpo_c, jli, jll, jlr, jat_0, jat_s, jst, jst2, jkill_i, jkill_r, jkill_l, jkill_n, jnone, jgv_0, jgv_1, jgv_2, jgv_3, jrv_s, jput_0, jput_1, jput_2, jput_3, jpop_0, jpop_1, jcl_s, jc1, jc2, jvi, Nat.reduceAdd, jol_i, jol_l, jol_n, List.map_cons, List.map_nil, List.sum_cons, List.sum_nil, jcI, jcL, jcR, Nat.zero_le, true_and, and_true, and_self, Nat.reduceLeDiff, gI_sI, gI_sL, gI_sR, gL_sI, gL_sL, gL_sR, gR_sI, gR_sL, gR_sR, gS_sI, gS_sL, gS_sR, gN_sI, gN_sL, gN_sR, true_or, or_true, false_or, or_false, Nat.reduceEqDiff, false_and, and_false, if_false, if_true, reduceIte, not_true_eq_false, not_false_eq_true, true_imp_iff, false_imp_iff, jr_1_3 hW, jr_1_4 hW, jr_1_7 hW, jr_1_8 hW, jr_1_9 hW, jr_1_10 hW, jr_1_11 hW, jr_1_12 hW, jr_1_13 hW, jr_10_0 hW, hW.1, jS0_1, jS0_2, jS0_10, jS0_11, jS0_34, jS0_38, jS0_43, jS0_102, jS0_112, jS0_122, jS0_128, ht, e20, g1, hc] | refine br_c (fun _ => ?_) (fun _ => ?_) | refine And.intro ?_ ?_)
    exact h0 hc
  have gz : ((1 : Int32) = 0) = False := by decide
  have k1 : jR (d + 1) 146 13 [some (.ref 1), some (.int x1), some (.int x2), some (.int x3), some (.int x4), some (.int x5)] [] (0, 0) μ Q := by
    refine b146_13 ?_
    simp only [jx_blk, jx_op, j1i_c, j2i_c, j1l_c, j2l_c, jil_c, j1r_c, jri_c, jrii_c, jril_c, jrl_c, jrr_c, j2i'_c, jdup_i, jdup_r, jdup2_c, jdup2_l, jpo_c, jli, jll, jlr, jat_0, jat_s, jst, jst2, jkill_i, jkill_r, jkill_l, jkill_n, jnone, jgv_0, jgv_1, jgv_2, jgv_3, jrv_s, jput_0, jput_1, jput_2, jput_3, jpop_0, jpop_1, jcl_s, jc1, jc2, jvi, Nat.reduceAdd, jol_i, jol_l, jol_n, List.map_cons, List.map_nil, List.sum_cons, List.sum_nil, jcI, jcL, jcR, Nat.zero_le, true_and, and_true, and_self, Nat.reduceLeDiff, gI_sI, gI_sL, gI_sR, gL_sI, gL_sL, gL_sR, gR_sI, gR_sL, gR_sR, gS_sI, gS_sL, gS_sR, gN_sI, gN_sL, gN_sR, true_or, or_true, false_or, or_false, Nat.reduceEqDiff, false_and, and_false, if_false, if_true, reduceIte, not_true_eq_false, not_false_eq_true, true_imp_iff, false_imp_iff, jr_1_3 hW, jr_1_4 hW, jr_1_7 hW, jr_1_8 hW, jr_1_9 hW, jr_1_10 hW, jr_1_11 hW, jr_1_12 hW, jr_1_13 hW, hW.1, jS0_1, jS0_2, jS0_10, jS0_34, jS0_38, jS0_43, jS0_102, jS0_112, jS0_122, jS0_128]
    refine sp_append (n0 := n) (by omega) hW ht (fun ν1 F1 a1 b1 => ?_)
    have W1 := F1.wd hW
    simp only [jx_blk, jx_op, j1i_c, j2i_c, j1l_c, j2l_c, jil_c, j1r_c, jri_c, jrii_c, jril_c, jrl_c, jrr_c, j2i'_c, jdup_i, jdup_r, jdup2_c, jdup2_l, jpo_c, jli, jll, jlr, jat_0, jat_s, jst, jst2, jkill_i, jkill_r, jkill_l, jkill_n, jnone, jgv_0, jgv_1, jgv_2, jgv_3, jrv_s, jput_0, jput_1, jput_2, jput_3, jpop_0, jpop_1, jcl_s, jc1, jc2, jvi, Nat.reduceAdd, jol_i, jol_l, jol_n, List.map_cons, List.map_nil, List.sum_cons, List.sum_nil, jcI, jcL, jcR, Nat.zero_le, true_and, and_true, and_self, Nat.reduceLeDiff, gI_sI, gI_sL, gI_sR, gL_sI, gL_sL, gL_sR, gR_sI, gR_sL, gR_sR, gS_sI, gS_sL, gS_sR, gN_sI, gN_sL, gN_sR, true_or, or_true, false_or, or_false, Nat.reduceEqDiff, false_and, and_false, if_false, if_true, reduceIte, not_true_eq_false, not_false_eq_true, true_imp_iff, false_imp_iff, jr_1_3 W1, jr_1_4 W1, jr_1_7 W1, jr_1_8 W1, jr_1_9 W1, jr_1_10 W1, jr_1_11 W1, jr_1_12 W1, jr_1_13 W1, W1.1, jS0_1, jS0_2, jS0_10, jS0_34, jS0_38, jS0_43, jS0_102, jS0_112, jS0_122, jS0_128]
    refine sp_append (n0 := n + 4) (by omega) W1 (by rw [a1, if_pos rfl]) (fun ν2 F2 a2 b2 => ?_)
    have W2 := F2.wd W1
    simp only [jx_blk, jx_op, j1i_c, j2i_c, j1l_c, j2l_c, jil_c, j1r_c, jri_c, jrii_c, jril_c, jrl_c, jrr_c, j2i'_c, jdup_i, jdup_r, jdup2_c, jdup2_l, jpo_c, jli, jll, jlr, jat_0, jat_s, jst, jst2, jkill_i, jkill_r, jkill_l, jkill_n, jnone, jgv_0, jgv_1, jgv_2, jgv_3, jrv_s, jput_0, jput_1, jput_2, jput_3, jpop_0, jpop_1, jcl_s, jc1, jc2, jvi, Nat.reduceAdd, jol_i, jol_l, jol_n, List.map_cons, List.map_nil, List.sum_cons, List.sum_nil, jcI, jcL, jcR, Nat.zero_le, true_and, and_true, and_self, Nat.reduceLeDiff, gI_sI, gI_sL, gI_sR, gL_sI, gL_sL, gL_sR, gR_sI, gR_sL, gR_sR, gS_sI, gS_sL, gS_sR, gN_sI, gN_sL, gN_sR, true_or, or_true, false_or, or_false, Nat.reduceEqDiff, false_and, and_false, if_false, if_true, reduceIte, not_true_eq_false, not_false_eq_true, true_imp_iff, false_imp_iff, jr_1_3 W2, jr_1_4 W2, jr_1_7 W2, jr_1_8 W2, jr_1_9 W2, jr_1_10 W2, jr_1_11 W2, jr_1_12 W2, jr_1_13 W2, W2.1, jS0_1, jS0_2, jS0_10, jS0_34, jS0_38, jS0_43, jS0_102, jS0_112, jS0_122, jS0_128]
    refine sp_append (n0 := n + 8) (by omega) W2 (by rw [a2, if_pos rfl]) (fun ν3 F3 a3 b3 => ?_)
    have W3 := F3.wd W2
    simp only [jx_blk, jx_op, j1i_c, j2i_c, j1l_c, j2l_c, jil_c, j1r_c, jri_c, jrii_c, jril_c, jrl_c, jrr_c, j2i'_c, jdup_i, jdup_r, jdup2_c, jdup2_l, jpo_c, jli, jll, jlr, jat_0, jat_s, jst, jst2, jkill_i, jkill_r, jkill_l, jkill_n, jnone, jgv_0, jgv_1, jgv_2, jgv_3, jrv_s, jput_0, jput_1, jput_2, jput_3, jpop_0, jpop_1, jcl_s, jc1, jc2, jvi, Nat.reduceAdd, jol_i, jol_l, jol_n, List.map_cons, List.map_nil, List.sum_cons, List.sum_nil, jcI, jcL, jcR, Nat.zero_le, true_and, and_true, and_self, Nat.reduceLeDiff, gI_sI, gI_sL, gI_sR, gL_sI, gL_sL, gL_sR, gR_sI, gR_sL, gR_sR, gS_sI, gS_sL, gS_sR, gN_sI, gN_sL, gN_sR, true_or, or_true, false_or, or_false, Nat.reduceEqDiff, false_and, and_false, if_false, if_true, reduceIte, not_true_eq_false, not_false_eq_true, true_imp_iff, false_imp_iff, jr_1_3 W3, jr_1_4 W3, jr_1_7 W3, jr_1_8 W3, jr_1_9 W3, jr_1_10 W3, jr_1_11 W3, jr_1_12 W3, jr_1_13 W3, W3.1, jS0_1, jS0_2, jS0_10, jS0_34, jS0_38, jS0_43, jS0_102, jS0_112, jS0_122, jS0_128]
    refine sp_append (n0 := n + 12) (by omega) W3 (by rw [a3, if_pos rfl]) (fun ν4 F4 a4 b4 => ?_)
    have W4 := F4.wd W3
    simp only [jx_blk, jx_op, j1i_c, j2i_c, j1l_c, j2l_c, jil_c, j1r_c, jri_c, jrii_c, jril_c, jrl_c, jrr_c, j2i'_c, jdup_i, jdup_r, jdup2_c, jdup2_l, jpo_c, jli, jll, jlr, jat_0, jat_s, jst, jst2, jkill_i, jkill_r, jkill_l, jkill_n, jnone, jgv_0, jgv_1, jgv_2, jgv_3, jrv_s, jput_0, jput_1, jput_2, jput_3, jpop_0, jpop_1, jcl_s, jc1, jc2, jvi, Nat.reduceAdd, jol_i, jol_l, jol_n, List.map_cons, List.map_nil, List.sum_cons, List.sum_nil, jcI, jcL, jcR, Nat.zero_le, true_and, and_true, and_self, Nat.reduceLeDiff, gI_sI, gI_sL, gI_sR, gL_sI, gL_sL, gL_sR, gR_sI, gR_sL, gR_sR, gS_sI, gS_sL, gS_sR, gN_sI, gN_sL, gN_sR, true_or, or_true, false_or, or_false, Nat.reduceEqDiff, false_and, and_false, if_false, if_true, reduceIte, not_true_eq_false, not_false_eq_true, true_imp_iff, false_imp_iff, jr_1_3 W4, jr_1_4 W4, jr_1_7 W4, jr_1_8 W4, jr_1_9 W4, jr_1_10 W4, jr_1_11 W4, jr_1_12 W4, jr_1_13 W4, W4.1, jS0_1, jS0_2, jS0_10, jS0_34, jS0_38, jS0_43, jS0_102, jS0_112, jS0_122, jS0_128]
    refine sp_append (n0 := n + 16) (by omega) W4 (by rw [a4, if_pos rfl]) (fun ν5 F5 a5 b5 => ?_)
    have W5 := F5.wd W4
    have t5 : gI ν5 10 1 = nI (n + 20) := by rw [a5, if_pos rfl]
    simp only [jx_blk, jx_op, j1i_c, j2i_c, j1l_c, j2l_c, jil_c, j1r_c, jri_c, jrii_c, jril_c, jrl_c, jrr_c, j2i'_c, jdup_i, jdup_r, jdup2_c, jdup2_l, jpo_c, jli, jll, jlr, jat_0, jat_s, jst, jst2, jkill_i, jkill_r, jkill_l, jkill_n, jnone, jgv_0, jgv_1, jgv_2, jgv_3, jrv_s, jput_0, jput_1, jput_2, jput_3, jpop_0, jpop_1, jcl_s, jc1, jc2, jvi, Nat.reduceAdd, jol_i, jol_l, jol_n, List.map_cons, List.map_nil, List.sum_cons, List.sum_nil, jcI, jcL, jcR, Nat.zero_le, true_and, and_true, and_self, Nat.reduceLeDiff, gI_sI, gI_sL, gI_sR, gL_sI, gL_sL, gL_sR, gR_sI, gR_sL, gR_sR, gS_sI, gS_sL, gS_sR, gN_sI, gN_sL, gN_sR, true_or, or_true, false_or, or_false, Nat.reduceEqDiff, false_and, and_false, if_false, if_true, reduceIte, not_true_eq_false, not_false_eq_true, true_imp_iff, false_imp_iff, jr_1_3 W5, jr_1_4 W5, jr_1_7 W5, jr_1_8 W5, jr_1_9 W5, jr_1_10 W5, jr_1_11 W5, jr_1_12 W5, jr_1_13 W5, jr_10_0 W5, W5.1, jS0_1, jS0_2, jS0_10, jS0_11, jS0_34, jS0_38, jS0_43, jS0_102, jS0_112, jS0_122, jS0_128, t5]
    refine h hc ν5 (F1.trans (F2.trans (F3.trans (F4.trans F5)))) (fun k => ?_) (fun k => ?_)
    · rw [a5, a4, a3, a2, a1]
      by_cases hk : k = 1
      · simp only [if_pos hk]
      · simp only [if_neg hk]
    · unfold jfe jfe jfe jfe jfe jfe
      rw [b5, b4, b3, b2, b1]
  repeat' (first | refine e40 (b40_0 ?_) | refine b40_18 ?_ | refine b40_19 ?_ | simp only [jx_blk, jx_op, j1i_c, j2i_c, j1l_c, j2l_c, jil_c, j1r_c, jri_c, jrii_c, jril_c, jrl_c, jrr_c, j2i'_c, jdup_i, jdup_r, jdup2_c, jdup2_l, jpo_c, jli, jll, jlr, jat_0, jat_s, jst, jst2, jkill_i, jkill_r, jkill_l, jkill_n, jnone, jgv_0, jgv_1, jgv_2, jgv_3, jrv_s, jput_0, jput_1, jput_2, jput_3, jpop_0, jpop_1, jcl_s, jc1, jc2, jvi, Nat.reduceAdd, jol_i, jol_l, jol_n, List.map_cons, List.map_nil, List.sum_cons, List.sum_nil, jcI, jcL, jcR, Nat.zero_le, true_and, and_true, and_self, Nat.reduceLeDiff, gI_sI, gI_sL, gI_sR, gL_sI, gL_sL, gL_sR, gR_sI, gR_sL, gR_sR, gS_sI, gS_sL, gS_sR, gN_sI, gN_sL, gN_sR, true_or, or_true, false_or, or_false, Nat.reduceEqDiff, false_and, and_false, if_false, if_true, reduceIte, not_true_eq_false, not_false_eq_true, true_imp_iff, false_imp_iff, jr_1_3 hW, jr_1_4 hW, jr_1_7 hW, jr_1_8 hW, jr_1_9 hW, jr_1_10 hW, jr_1_11 hW, jr_1_12 hW, jr_1_13 hW, jr_10_0 hW, hW.1, jS0_1, jS0_2, jS0_10, jS0_11, jS0_34, jS0_38, jS0_43, jS0_102, jS0_112, jS0_122, jS0_128, ht, e20, g1, hc, gz] | refine br_c (fun _ => ?_) (fun _ => ?_) | refine And.intro ?_ ?_)
  exact k1
theorem sM_feed {x1 x2 x3 x4 x5 : Int32} {n : Nat} (hn : n ≤ 500) (hW : jWd L t μ) (ht : gI μ 133 8 = nI n) (h0 : ¬ n + 20 ≤ 500 → Q (some (.int (-1))) (sI μ 133 1 0)) (h : n + 20 ≤ 500 → ∀ ν, jFr [133, 137] μ ν → (∀ k, gI ν 133 k = if k = 8 then nI (n + 20) else gI (sI μ 133 1 0) 133 k) → (∀ k, gL ν 133 k = gL μ 133 k) → (∀ k, gI ν 137 k = jfe jbs n [x1, x2, x3, x4, x5] (gI μ 137) k) → Q (some (.int (nI (n + 20)))) ν) : jC (d + 1) 224 [.ref 133, .int x1, .int x2, .int x3, .int x4, .int x5] μ Q := by
  refine e224 (b224_0 ?_)
  have g1 : (nI n + 20 ≤ 500) = (n + 20 ≤ 500) := by
    rw [li_20, nI_add, li_500]
    refine propext ⟨fun q => Decidable.byContradiction (fun c => ?_), fun q => nI_le (by omega) (by omega)⟩
    have := nI_lt (a := 500) (b := n + 20) (by omega) (by omega)
    grind
  have W0 : jWd L t (sI μ 133 1 0) := hW
  by_cases hc : n + 20 ≤ 500
  case neg =>
    repeat' (first | simp only [jx_blk, jx_op, j1i_c, j2i_c, j1l_c, j2l_c, jil_c, j1r_c, jri_c, jrii_c, jril_c, jrl_c, jrr_c, j2i'_c, jdup_i, jdup_r, jdup2_c, jdup2_l, jpo_c, jli, jll, jlr, jat_0, jat_s, jst, jst2, jkill_i, jkill_r, jkill_l, jkill_n, jnone, jgv_0, jgv_1, jgv_2, jgv_3, jrv_s, jput_0, jput_1, jput_2, jput_3, jpop_0, jpop_1, jcl_s, jc1, jc2, jvi, Nat.reduceAdd, jol_i, jol_l, jol_n, List.map_cons, List.map_nil, List.sum_cons, List.sum_nil, jcI, jcL, jcR, Nat.zero_le, true_and, and_true, and_self, Nat.reduceLeDiff, gI_sI, gI_sL, gI_sR, gL_sI, gL_sL, gL_sR, gR_sI, gR_sL, gR_sR, gS_sI, gS_sL, gS_sR, gN_sI, gN_sL, gN_sR, true_or, or_true, false_or, or_false, Nat.reduceEqDiff, false_and, and_false, if_false, if_true, reduceIte, not_true_eq_false, not_false_eq_true, true_imp_iff, false_imp_iff, jr_133_4 hW, jr_133_5 hW, jr_133_6 hW, jr_133_7 hW, jr_133_31 hW, jr_133_32 hW, jr_133_33 hW, jr_133_34 hW, jr_133_35 hW, jr_133_36 hW, jr_133_37 hW, jr_133_38 hW, jr_133_39 hW, jr_133_40 hW, jr_133_41 hW, jr_133_42 hW, jr_133_44 hW, jr_133_45 hW, jr_133_46 hW, jr_133_47 hW, jr_133_48 hW, jr_133_49 hW, jr_133_50 hW, jr_133_51 hW, jr_133_55 hW, jr_133_56 hW, jr_133_57 hW, jr_133_58 hW, jr_133_62 hW, jr_133_65 hW, jr_133_66 hW, jr_133_67 hW, jr_133_68 hW, jr_133_69 hW, jr_133_70 hW, jr_133_71 hW, jr_133_74 hW, jr_133_75 hW, hW.1, jS0_133, jS0_134, jS0_135, jS0_136, jS0_137, jS0_138, jS0_139, jS0_140, jS0_141, jS0_142, jS0_143, jS0_144, jS0_145, jS0_146, jS0_147, jS0_148, jS0_149, jS0_150, jS0_151, jS0_152, jS0_153, jS0_154, jS0_155, jS0_156, jS0_157, jS0_158, jS0_159, jS0_160, jS0_161, jS0_162, jS0_163, jS0_164, jS0_165, jS0_166, jS0_167, jS0_168, jS0_169, jS0_170, jS0_171, ht, g1, hc] | refine br_c (fun _ => ?_) (fun _ => ?_) | refine And.intro ?_ ?_)
    exact h0 hc
  have k1 : jR (d + 1) 224 20 [some (.ref 133), some (.int x1), some (.int x2), some (.int x3), some (.int x4), some (.int x5)] [] (0, 0) (sI μ 133 1 0) Q := by
    refine b224_20 ?_
    simp only [jx_blk, jx_op, j1i_c, j2i_c, j1l_c, j2l_c, jil_c, j1r_c, jri_c, jrii_c, jril_c, jrl_c, jrr_c, j2i'_c, jdup_i, jdup_r, jdup2_c, jdup2_l, jpo_c, jli, jll, jlr, jat_0, jat_s, jst, jst2, jkill_i, jkill_r, jkill_l, jkill_n, jnone, jgv_0, jgv_1, jgv_2, jgv_3, jrv_s, jput_0, jput_1, jput_2, jput_3, jpop_0, jpop_1, jcl_s, jc1, jc2, jvi, Nat.reduceAdd, jol_i, jol_l, jol_n, List.map_cons, List.map_nil, List.sum_cons, List.sum_nil, jcI, jcL, jcR, Nat.zero_le, true_and, and_true, and_self, Nat.reduceLeDiff, gI_sI, gI_sL, gI_sR, gL_sI, gL_sL, gL_sR, gR_sI, gR_sL, gR_sR, gS_sI, gS_sL, gS_sR, gN_sI, gN_sL, gN_sR, true_or, or_true, false_or, or_false, Nat.reduceEqDiff, false_and, and_false, if_false, if_true, reduceIte, not_true_eq_false, not_false_eq_true, true_imp_iff, false_imp_iff, jr_133_4 hW, jr_133_5 hW, jr_133_6 hW, jr_133_7 hW, jr_133_31 hW, jr_133_32 hW, jr_133_33 hW, jr_133_34 hW, jr_133_35 hW, jr_133_36 hW, jr_133_37 hW, jr_133_38 hW, jr_133_39 hW, jr_133_40 hW, jr_133_41 hW, jr_133_42 hW, jr_133_44 hW, jr_133_45 hW, jr_133_46 hW, jr_133_47 hW, jr_133_48 hW, jr_133_49 hW, jr_133_50 hW, jr_133_51 hW, jr_133_55 hW, jr_133_56 hW, jr_133_57 hW, jr_133_58 hW, jr_133_62 hW, jr_133_65 hW, jr_133_66 hW, jr_133_67 hW, jr_133_68 hW, jr_133_69 hW, jr_133_70 hW, jr_133_71 hW, jr_133_74 hW, jr_133_75 hW, hW.1, jS0_133, jS0_134, jS0_135, jS0_136, jS0_137, jS0_138, jS0_139, jS0_140, jS0_141, jS0_142, jS0_143, jS0_144, jS0_145, jS0_146, jS0_147, jS0_148, jS0_149, jS0_150, jS0_151, jS0_152, jS0_153, jS0_154, jS0_155, jS0_156, jS0_157, jS0_158, jS0_159, jS0_160, jS0_161, jS0_162, jS0_163, jS0_164, jS0_165, jS0_166, jS0_167, jS0_168, jS0_169, jS0_170, jS0_171]
    refine sp_mlay (n0 := n) (by omega) W0 (by rw [gI_sI, if_neg (by decide)]; exact ht) (fun ν1 F1 a1 c1 b1 => ?_)
    have W1 := F1.wd W0
    simp only [jx_blk, jx_op, j1i_c, j2i_c, j1l_c, j2l_c, jil_c, j1r_c, jri_c, jrii_c, jril_c, jrl_c, jrr_c, j2i'_c, jdup_i, jdup_r, jdup2_c, jdup2_l, jpo_c, jli, jll, jlr, jat_0, jat_s, jst, jst2, jkill_i, jkill_r, jkill_l, jkill_n, jnone, jgv_0, jgv_1, jgv_2, jgv_3, jrv_s, jput_0, jput_1, jput_2, jput_3, jpop_0, jpop_1, jcl_s, jc1, jc2, jvi, Nat.reduceAdd, jol_i, jol_l, jol_n, List.map_cons, List.map_nil, List.sum_cons, List.sum_nil, jcI, jcL, jcR, Nat.zero_le, true_and, and_true, and_self, Nat.reduceLeDiff, gI_sI, gI_sL, gI_sR, gL_sI, gL_sL, gL_sR, gR_sI, gR_sL, gR_sR, gS_sI, gS_sL, gS_sR, gN_sI, gN_sL, gN_sR, true_or, or_true, false_or, or_false, Nat.reduceEqDiff, false_and, and_false, if_false, if_true, reduceIte, not_true_eq_false, not_false_eq_true, true_imp_iff, false_imp_iff, jr_133_4 W1, jr_133_5 W1, jr_133_6 W1, jr_133_7 W1, jr_133_31 W1, jr_133_32 W1, jr_133_33 W1, jr_133_34 W1, jr_133_35 W1, jr_133_36 W1, jr_133_37 W1, jr_133_38 W1, jr_133_39 W1, jr_133_40 W1, jr_133_41 W1, jr_133_42 W1, jr_133_44 W1, jr_133_45 W1, jr_133_46 W1, jr_133_47 W1, jr_133_48 W1, jr_133_49 W1, jr_133_50 W1, jr_133_51 W1, jr_133_55 W1, jr_133_56 W1, jr_133_57 W1, jr_133_58 W1, jr_133_62 W1, jr_133_65 W1, jr_133_66 W1, jr_133_67 W1, jr_133_68 W1, jr_133_69 W1, jr_133_70 W1, jr_133_71 W1, jr_133_74 W1, jr_133_75 W1, W1.1, jS0_133, jS0_134, jS0_135, jS0_136, jS0_137, jS0_138, jS0_139, jS0_140, jS0_141, jS0_142, jS0_143, jS0_144, jS0_145, jS0_146, jS0_147, jS0_148, jS0_149, jS0_150, jS0_151, jS0_152, jS0_153, jS0_154, jS0_155, jS0_156, jS0_157, jS0_158, jS0_159, jS0_160, jS0_161, jS0_162, jS0_163, jS0_164, jS0_165, jS0_166, jS0_167, jS0_168, jS0_169, jS0_170, jS0_171]
    refine sp_mlay (n0 := n + 4) (by omega) W1 (by rw [a1, if_pos rfl]) (fun ν2 F2 a2 c2 b2 => ?_)
    have W2 := F2.wd W1
    simp only [jx_blk, jx_op, j1i_c, j2i_c, j1l_c, j2l_c, jil_c, j1r_c, jri_c, jrii_c, jril_c, jrl_c, jrr_c, j2i'_c, jdup_i, jdup_r, jdup2_c, jdup2_l, jpo_c, jli, jll, jlr, jat_0, jat_s, jst, jst2, jkill_i, jkill_r, jkill_l, jkill_n, jnone, jgv_0, jgv_1, jgv_2, jgv_3, jrv_s, jput_0, jput_1, jput_2, jput_3, jpop_0, jpop_1, jcl_s, jc1, jc2, jvi, Nat.reduceAdd, jol_i, jol_l, jol_n, List.map_cons, List.map_nil, List.sum_cons, List.sum_nil, jcI, jcL, jcR, Nat.zero_le, true_and, and_true, and_self, Nat.reduceLeDiff, gI_sI, gI_sL, gI_sR, gL_sI, gL_sL, gL_sR, gR_sI, gR_sL, gR_sR, gS_sI, gS_sL, gS_sR, gN_sI, gN_sL, gN_sR, true_or, or_true, false_or, or_false, Nat.reduceEqDiff, false_and, and_false, if_false, if_true, reduceIte, not_true_eq_false, not_false_eq_true, true_imp_iff, false_imp_iff, jr_133_4 W2, jr_133_5 W2, jr_133_6 W2, jr_133_7 W2, jr_133_31 W2, jr_133_32 W2, jr_133_33 W2, jr_133_34 W2, jr_133_35 W2, jr_133_36 W2, jr_133_37 W2, jr_133_38 W2, jr_133_39 W2, jr_133_40 W2, jr_133_41 W2, jr_133_42 W2, jr_133_44 W2, jr_133_45 W2, jr_133_46 W2, jr_133_47 W2, jr_133_48 W2, jr_133_49 W2, jr_133_50 W2, jr_133_51 W2, jr_133_55 W2, jr_133_56 W2, jr_133_57 W2, jr_133_58 W2, jr_133_62 W2, jr_133_65 W2, jr_133_66 W2, jr_133_67 W2, jr_133_68 W2, jr_133_69 W2, jr_133_70 W2, jr_133_71 W2, jr_133_74 W2, jr_133_75 W2, W2.1, jS0_133, jS0_134, jS0_135, jS0_136, jS0_137, jS0_138, jS0_139, jS0_140, jS0_141, jS0_142, jS0_143, jS0_144, jS0_145, jS0_146, jS0_147, jS0_148, jS0_149, jS0_150, jS0_151, jS0_152, jS0_153, jS0_154, jS0_155, jS0_156, jS0_157, jS0_158, jS0_159, jS0_160, jS0_161, jS0_162, jS0_163, jS0_164, jS0_165, jS0_166, jS0_167, jS0_168, jS0_169, jS0_170, jS0_171]
    refine sp_mlay (n0 := n + 8) (by omega) W2 (by rw [a2, if_pos rfl]) (fun ν3 F3 a3 c3 b3 => ?_)
    have W3 := F3.wd W2
    simp only [jx_blk, jx_op, j1i_c, j2i_c, j1l_c, j2l_c, jil_c, j1r_c, jri_c, jrii_c, jril_c, jrl_c, jrr_c, j2i'_c, jdup_i, jdup_r, jdup2_c, jdup2_l, jpo_c, jli, jll, jlr, jat_0, jat_s, jst, jst2, jkill_i, jkill_r, jkill_l, jkill_n, jnone, jgv_0, jgv_1, jgv_2, jgv_3, jrv_s, jput_0, jput_1, jput_2, jput_3, jpop_0, jpop_1, jcl_s, jc1, jc2, jvi, Nat.reduceAdd, jol_i, jol_l, jol_n, List.map_cons, List.map_nil, List.sum_cons, List.sum_nil, jcI, jcL, jcR, Nat.zero_le, true_and, and_true, and_self, Nat.reduceLeDiff, gI_sI, gI_sL, gI_sR, gL_sI, gL_sL, gL_sR, gR_sI, gR_sL, gR_sR, gS_sI, gS_sL, gS_sR, gN_sI, gN_sL, gN_sR, true_or, or_true, false_or, or_false, Nat.reduceEqDiff, false_and, and_false, if_false, if_true, reduceIte, not_true_eq_false, not_false_eq_true, true_imp_iff, false_imp_iff, jr_133_4 W3, jr_133_5 W3, jr_133_6 W3, jr_133_7 W3, jr_133_31 W3, jr_133_32 W3, jr_133_33 W3, jr_133_34 W3, jr_133_35 W3, jr_133_36 W3, jr_133_37 W3, jr_133_38 W3, jr_133_39 W3, jr_133_40 W3, jr_133_41 W3, jr_133_42 W3, jr_133_44 W3, jr_133_45 W3, jr_133_46 W3, jr_133_47 W3, jr_133_48 W3, jr_133_49 W3, jr_133_50 W3, jr_133_51 W3, jr_133_55 W3, jr_133_56 W3, jr_133_57 W3, jr_133_58 W3, jr_133_62 W3, jr_133_65 W3, jr_133_66 W3, jr_133_67 W3, jr_133_68 W3, jr_133_69 W3, jr_133_70 W3, jr_133_71 W3, jr_133_74 W3, jr_133_75 W3, W3.1, jS0_133, jS0_134, jS0_135, jS0_136, jS0_137, jS0_138, jS0_139, jS0_140, jS0_141, jS0_142, jS0_143, jS0_144, jS0_145, jS0_146, jS0_147, jS0_148, jS0_149, jS0_150, jS0_151, jS0_152, jS0_153, jS0_154, jS0_155, jS0_156, jS0_157, jS0_158, jS0_159, jS0_160, jS0_161, jS0_162, jS0_163, jS0_164, jS0_165, jS0_166, jS0_167, jS0_168, jS0_169, jS0_170, jS0_171]
    refine sp_mlay (n0 := n + 12) (by omega) W3 (by rw [a3, if_pos rfl]) (fun ν4 F4 a4 c4 b4 => ?_)
    have W4 := F4.wd W3
    simp only [jx_blk, jx_op, j1i_c, j2i_c, j1l_c, j2l_c, jil_c, j1r_c, jri_c, jrii_c, jril_c, jrl_c, jrr_c, j2i'_c, jdup_i, jdup_r, jdup2_c, jdup2_l, jpo_c, jli, jll, jlr, jat_0, jat_s, jst, jst2, jkill_i, jkill_r, jkill_l, jkill_n, jnone, jgv_0, jgv_1, jgv_2, jgv_3, jrv_s, jput_0, jput_1, jput_2, jput_3, jpop_0, jpop_1, jcl_s, jc1, jc2, jvi, Nat.reduceAdd, jol_i, jol_l, jol_n, List.map_cons, List.map_nil, List.sum_cons, List.sum_nil, jcI, jcL, jcR, Nat.zero_le, true_and, and_true, and_self, Nat.reduceLeDiff, gI_sI, gI_sL, gI_sR, gL_sI, gL_sL, gL_sR, gR_sI, gR_sL, gR_sR, gS_sI, gS_sL, gS_sR, gN_sI, gN_sL, gN_sR, true_or, or_true, false_or, or_false, Nat.reduceEqDiff, false_and, and_false, if_false, if_true, reduceIte, not_true_eq_false, not_false_eq_true, true_imp_iff, false_imp_iff, jr_133_4 W4, jr_133_5 W4, jr_133_6 W4, jr_133_7 W4, jr_133_31 W4, jr_133_32 W4, jr_133_33 W4, jr_133_34 W4, jr_133_35 W4, jr_133_36 W4, jr_133_37 W4, jr_133_38 W4, jr_133_39 W4, jr_133_40 W4, jr_133_41 W4, jr_133_42 W4, jr_133_44 W4, jr_133_45 W4, jr_133_46 W4, jr_133_47 W4, jr_133_48 W4, jr_133_49 W4, jr_133_50 W4, jr_133_51 W4, jr_133_55 W4, jr_133_56 W4, jr_133_57 W4, jr_133_58 W4, jr_133_62 W4, jr_133_65 W4, jr_133_66 W4, jr_133_67 W4, jr_133_68 W4, jr_133_69 W4, jr_133_70 W4, jr_133_71 W4, jr_133_74 W4, jr_133_75 W4, W4.1, jS0_133, jS0_134, jS0_135, jS0_136, jS0_137, jS0_138, jS0_139, jS0_140, jS0_141, jS0_142, jS0_143, jS0_144, jS0_145, jS0_146, jS0_147, jS0_148, jS0_149, jS0_150, jS0_151, jS0_152, jS0_153, jS0_154, jS0_155, jS0_156, jS0_157, jS0_158, jS0_159, jS0_160, jS0_161, jS0_162, jS0_163, jS0_164, jS0_165, jS0_166, jS0_167, jS0_168, jS0_169, jS0_170, jS0_171]
    refine sp_mlay (n0 := n + 16) (by omega) W4 (by rw [a4, if_pos rfl]) (fun ν5 F5 a5 c5 b5 => ?_)
    have W5 := F5.wd W4
    have t5 : gI ν5 133 8 = nI (n + 20) := by rw [a5, if_pos rfl]
    simp only [jx_blk, jx_op, j1i_c, j2i_c, j1l_c, j2l_c, jil_c, j1r_c, jri_c, jrii_c, jril_c, jrl_c, jrr_c, j2i'_c, jdup_i, jdup_r, jdup2_c, jdup2_l, jpo_c, jli, jll, jlr, jat_0, jat_s, jst, jst2, jkill_i, jkill_r, jkill_l, jkill_n, jnone, jgv_0, jgv_1, jgv_2, jgv_3, jrv_s, jput_0, jput_1, jput_2, jput_3, jpop_0, jpop_1, jcl_s, jc1, jc2, jvi, Nat.reduceAdd, jol_i, jol_l, jol_n, List.map_cons, List.map_nil, List.sum_cons, List.sum_nil, jcI, jcL, jcR, Nat.zero_le, true_and, and_true, and_self, Nat.reduceLeDiff, gI_sI, gI_sL, gI_sR, gL_sI, gL_sL, gL_sR, gR_sI, gR_sL, gR_sR, gS_sI, gS_sL, gS_sR, gN_sI, gN_sL, gN_sR, true_or, or_true, false_or, or_false, Nat.reduceEqDiff, false_and, and_false, if_false, if_true, reduceIte, not_true_eq_false, not_false_eq_true, true_imp_iff, false_imp_iff, jr_133_4 W5, jr_133_5 W5, jr_133_6 W5, jr_133_7 W5, jr_133_31 W5, jr_133_32 W5, jr_133_33 W5, jr_133_34 W5, jr_133_35 W5, jr_133_36 W5, jr_133_37 W5, jr_133_38 W5, jr_133_39 W5, jr_133_40 W5, jr_133_41 W5, jr_133_42 W5, jr_133_44 W5, jr_133_45 W5, jr_133_46 W5, jr_133_47 W5, jr_133_48 W5, jr_133_49 W5, jr_133_50 W5, jr_133_51 W5, jr_133_55 W5, jr_133_56 W5, jr_133_57 W5, jr_133_58 W5, jr_133_62 W5, jr_133_65 W5, jr_133_66 W5, jr_133_67 W5, jr_133_68 W5, jr_133_69 W5, jr_133_70 W5, jr_133_71 W5, jr_133_74 W5, jr_133_75 W5, W5.1, jS0_133, jS0_134, jS0_135, jS0_136, jS0_137, jS0_138, jS0_139, jS0_140, jS0_141, jS0_142, jS0_143, jS0_144, jS0_145, jS0_146, jS0_147, jS0_148, jS0_149, jS0_150, jS0_151, jS0_152, jS0_153, jS0_154, jS0_155, jS0_156, jS0_157, jS0_158, jS0_159, jS0_160, jS0_161, jS0_162, jS0_163, jS0_164, jS0_165, jS0_166, jS0_167, jS0_168, jS0_169, jS0_170, jS0_171, t5]
    refine h hc ν5 ((jFr.sI (by simp)).trans (F1.trans (F2.trans (F3.trans (F4.trans F5))))) (fun k => ?_) (fun k => ?_) (fun k => ?_)
    · rw [a5, a4, a3, a2, a1]
      by_cases hk : k = 8
      · simp only [if_pos hk]
      · simp only [if_neg hk]
    · rw [c5, c4, c3, c2, c1, gL_sI]
    · unfold jfe jfe jfe jfe jfe jfe
      rw [b5, b4, b3, b2, b1]
      simp only [gI_sI, show ¬ (137 = 133) by decide, false_and, if_false]
  repeat' (first | simp only [jx_blk, jx_op, j1i_c, j2i_c, j1l_c, j2l_c, jil_c, j1r_c, jri_c, jrii_c, jril_c, jrl_c, jrr_c, j2i'_c, jdup_i, jdup_r, jdup2_c, jdup2_l, jpo_c, jli, jll, jlr, jat_0, jat_s, jst, jst2, jkill_i, jkill_r, jkill_l, jkill_n, jnone, jgv_0, jgv_1, jgv_2, jgv_3, jrv_s, jput_0, jput_1, jput_2, jput_3, jpop_0, jpop_1, jcl_s, jc1, jc2, jvi, Nat.reduceAdd, jol_i, jol_l, jol_n, List.map_cons, List.map_nil, List.sum_cons, List.sum_nil, jcI, jcL, jcR, Nat.zero_le, true_and, and_true, and_self, Nat.reduceLeDiff, gI_sI, gI_sL, gI_sR, gL_sI, gL_sL, gL_sR, gR_sI, gR_sL, gR_sR, gS_sI, gS_sL, gS_sR, gN_sI, gN_sL, gN_sR, true_or, or_true, false_or, or_false, Nat.reduceEqDiff, false_and, and_false, if_false, if_true, reduceIte, not_true_eq_false, not_false_eq_true, true_imp_iff, false_imp_iff, jr_133_4 hW, jr_133_5 hW, jr_133_6 hW, jr_133_7 hW, jr_133_31 hW, jr_133_32 hW, jr_133_33 hW, jr_133_34 hW, jr_133_35 hW, jr_133_36 hW, jr_133_37 hW, jr_133_38 hW, jr_133_39 hW, jr_133_40 hW, jr_133_41 hW, jr_133_42 hW, jr_133_44 hW, jr_133_45 hW, jr_133_46 hW, jr_133_47 hW, jr_133_48 hW, jr_133_49 hW, jr_133_50 hW, jr_133_51 hW, jr_133_55 hW, jr_133_56 hW, jr_133_57 hW, jr_133_58 hW, jr_133_62 hW, jr_133_65 hW, jr_133_66 hW, jr_133_67 hW, jr_133_68 hW, jr_133_69 hW, jr_133_70 hW, jr_133_71 hW, jr_133_74 hW, jr_133_75 hW, hW.1, jS0_133, jS0_134, jS0_135, jS0_136, jS0_137, jS0_138, jS0_139, jS0_140, jS0_141, jS0_142, jS0_143, jS0_144, jS0_145, jS0_146, jS0_147, jS0_148, jS0_149, jS0_150, jS0_151, jS0_152, jS0_153, jS0_154, jS0_155, jS0_156, jS0_157, jS0_158, jS0_159, jS0_160, jS0_161, jS0_162, jS0_163, jS0_164, jS0_165, jS0_166, jS0_167, jS0_168, jS0_169, jS0_170, jS0_171, ht, g1, hc] | refine br_c (fun _ => ?_) (fun _ => ?_) | refine And.intro ?_ ?_)
  exact k1
theorem jTr_of {ν : jMem} (hI : ∀ a k, (a = 8 ∨ a = 9 ∨ a = 134 ∨ a = 135) → gI ν a k = gI μ a k) (hL : ∀ a k, (4 ≤ a ∧ a < 8 ∨ a = 136) → gL ν a k = gL μ a k) (h : jTr μ) : jTr ν := fun i hi => by
  obtain ⟨a, b, c, e⟩ := h i hi
  rw [hI 8 _ (by simp), hI 9 _ (by simp), hI 134 _ (by simp), hI 135 _ (by simp)]
  refine ⟨a, b, c, fun k hk => ?_⟩
  rw [hL (4 + i) _ (by omega), hL 136 _ (by simp)]
  exact e k hk
theorem R_feed (x1 x2 x3 x4 x5 : Int32) (h : jInv L μ) : jRel 999 146 224 [.int x1, .int x2, .int x3, .int x4, .int x5] jInv L false μ := by
  obtain ⟨t, hW, hS, hT, hO⟩ := h
  obtain ⟨ht, ⟨⟨n, n1, n2, n3, n4⟩, n5, n6⟩, ⟨T, hT1, hT2, hT3⟩, ⟨V, hV1, hV2, hV3⟩, hR, hC⟩ := id hO
  refine sX_feed n1 hW n2 (fun c => ?_) (fun c ν F a b => ?_)
  · refine ⟨⟨_, rfl⟩, fun _ => rfl, fun _ => rfl, sM_feed n1 hW n3 (fun _ => ⟨rfl, t, hW, ?_, jTr_sI (by decide) hT, jOth_sI rfl hO⟩) (fun c2 => absurd c2 c)⟩
    refine ⟨?_, hS.2⟩
    rw [gI_sI, gI_sI, if_neg (by decide), if_neg (by decide)]
    exact hS.1
  · have Wν := F.wd hW
    refine ⟨⟨_, rfl⟩, fun j => jg1 F (by decide) j, F.2.2.1, sM_feed n1 Wν (by rw [(F.1 133 (by decide)).1]; exact n3) (fun c2 => absurd c c2) (fun _ ρ G a' l' b' => ?_)⟩
    have q : ∀ x k, x ≠ 10 → x ≠ 11 → x ≠ 133 → x ≠ 137 → gI ρ x k = gI μ x k := fun x k h1 h2 h3 h4 => by
      rw [(G.1 x (by simp [h3, h4])).1, (F.1 x (by simp [h1, h2])).1]
    have qL : ∀ x k, x ≠ 10 → x ≠ 11 → x ≠ 137 → gL ρ x k = gL μ x k := fun x k h1 h2 h4 => by
      by_cases h3 : x = 133
      · subst h3
        rw [l', (F.1 133 (by decide)).2]
      · rw [(G.1 x (by simp [h3, h4])).2, (F.1 x (by simp [h1, h2])).2]
    have q3 : ∀ k, k ≠ 8 → k ≠ 1 → gI ρ 133 k = gI μ 133 k := fun k h1 h2 => by
      rw [a', if_neg h1, gI_sI, if_neg (by omega), (F.1 133 (by decide)).1]
    have q4 : ∀ k, k ≠ 1 → gI ρ 10 k = gI μ 10 k := fun k h1 => by
      rw [(G.1 10 (by decide)).1, a, if_neg h1]
    refine ⟨rfl, t, G.wd Wν, ⟨?_, ?_, ?_⟩, ?_, ht, ⟨⟨n + 20, c, ?_, ?_, ?_⟩, ?_, ?_⟩, ⟨T, hT1, ?_, ?_⟩, ⟨V, hV1, ?_, ?_⟩, ?_, ?_⟩
    · rw [q3 0 (by decide) (by decide), q 1 0 (by decide) (by decide) (by decide) (by decide)]; exact hS.1
    · rw [qL 133 2 (by decide) (by decide) (by decide), qL 1 1 (by decide) (by decide) (by decide)]; exact hS.2.1
    · rw [qL 133 3 (by decide) (by decide) (by decide), qL 1 2 (by decide) (by decide) (by decide)]; exact hS.2.2
    · exact jTr_of (μ := μ) (fun x j hx => q x j (by omega) (by omega) (by omega) (by omega)) (fun x j hx => qL x j (by omega) (by omega) (by omega)) hT
    · rw [(G.1 10 (by decide)).1, a, if_pos rfl]
    · rw [a', if_pos rfl]
    · intro k hk
      rw [(G.1 11 (by decide)).1, b, b', (funext fun k => (F.1 137 (by decide)).1 k : gI ν 137 = gI μ 137)]
      exact jfe_eq _ n _ _ n4 k (by simpa using hk)
    · rw [q3 10 (by decide) (by decide), q4 2 (by decide)]; exact n5
    · rw [q3 11 (by decide) (by decide), q4 3 (by decide)]; exact n6
    · exact jTX_of2 (fun x k h1 h2 => q x k (by omega) (by omega) (by omega) (by omega)) hT2
    · exact jTM_of (fun x k hx => by
        by_cases h3 : x = 133
        · subst h3; exact q3 k (by omega) (by omega)
        · exact q x k (by omega) (by omega) h3 (by omega)) hT3
    · exact jVX_of (fun x k hx => q x k (by omega) (by omega) (by omega) (by omega)) hV2
    · exact jVM_of (fun x k hx => by
        by_cases h3 : x = 133
        · subst h3; exact q3 k (by omega) (by omega)
        · exact q x k (by omega) (by omega) h3 (by omega)) hV3
    · exact jRw_of (fun x k hx => by
        by_cases h3 : x = 133
        · subst h3; exact q3 k (by omega) (by omega)
        · exact q x k (by omega) (by omega) h3 (by omega)) hR
    · exact jCh_of (fun x k hx => by
        by_cases h3 : x = 133
        · subst h3; exact q3 k (by omega) (by omega)
        · exact q x k (by omega) (by omega) h3 (by omega)) (fun x k hx => qL x k (by omega) (by omega) (by omega)) hC
end JTB
