/-! place -/
section JTC
variable {d L t : Nat} {μ : jMem} {Q : jQ} {T : jT}
theorem jprd {x : Int32} {n : Nat} (hn : n ≤ 8) : (x ≤ nI n - 1) = (x < nI n) := by
  rcases (show n = 0 ∨ n = 1 ∨ n = 2 ∨ n = 3 ∨ n = 4 ∨ n = 5 ∨ n = 6 ∨ n = 7 ∨ n = 8 by omega) with rfl | rfl | rfl | rfl | rfl | rfl | rfl | rfl | rfl
  · rw [show nI 0 - 1 = -1 by decide, show nI 0 = 0 from rfl]; grind
  · rw [show nI 1 - 1 = 0 by decide, show nI 1 = 1 from rfl]; grind
  · rw [show nI 2 - 1 = 1 by decide, show nI 2 = 2 from rfl]; grind
  · rw [show nI 3 - 1 = 2 by decide, show nI 3 = 3 from rfl]; grind
  · rw [show nI 4 - 1 = 3 by decide, show nI 4 = 4 from rfl]; grind
  · rw [show nI 5 - 1 = 4 by decide, show nI 5 = 5 from rfl]; grind
  · rw [show nI 6 - 1 = 5 by decide, show nI 6 = 6 from rfl]; grind
  · rw [show nI 7 - 1 = 6 by decide, show nI 7 = 7 from rfl]; grind
  · rw [show nI 8 - 1 = 7 by decide, show nI 8 = 8 from rfl]; grind
theorem nI_le8 {n : Nat} (hn : n ≤ 8) : nI n ≤ 8 := nI_le (b := 8) hn (by omega)
theorem sp_isPlace {x : Int32} (hW : jWd L t μ) (hK : jTok T) (hX : jTX T t μ) (h : Q (some (.int (if 0 ≤ x ∧ x < nI (tP T) then 1 else 0))) μ) : jC d 79 [.ref t, .int x] μ Q := by
  have s := (jWs hW).1
  have q := hX.1.1
  have e8 := nI_le8 hK.1.1
  refine e79 (b79_0 ?_)
  simp only [jx_blk, jx_op, j1i_c, j2i_c, j1l_c, j2l_c, jil_c, j1r_c, jri_c, jrii_c, jril_c, jrl_c, jrr_c, j2i'_c, jdup_i, jdup_r, jdup2_c, jdup2_l, jpo_c, jli, jll, jlr, jat_0, jat_s, jst, jst2, jkill_i, jkill_r, jkill_l, jkill_n, jnone, jgv_0, jgv_1, jgv_2, jgv_3, jrv_s, jput_0, jput_1, jput_2, jput_3, jpop_0, jpop_1, jcl_s, jc1, jc2, jvi, Nat.reduceAdd, jol_i, jol_l, jol_n, List.map_cons, List.map_nil, List.sum_cons, List.sum_nil, jcI, jcL, jcR, Nat.zero_le, true_and, and_true, and_self, Nat.reduceLeDiff, gI_sI, gI_sL, gI_sR, gL_sI, gL_sL, gL_sR, gR_sI, gR_sL, gR_sR, gS_sI, gS_sL, gS_sR, gN_sI, gN_sL, gN_sR, true_or, or_true, false_or, or_false, Nat.reduceEqDiff, false_and, and_false, if_false, if_true, reduceIte, not_true_eq_false, not_false_eq_true, true_imp_iff, false_imp_iff, hW.1, s, q]
  repeat' (first | refine b79_22 ?_ | refine b79_23 ?_ | simp only [jx_blk, jx_op, j1i_c, j2i_c, j1l_c, j2l_c, jil_c, j1r_c, jri_c, jrii_c, jril_c, jrl_c, jrr_c, j2i'_c, jdup_i, jdup_r, jdup2_c, jdup2_l, jpo_c, jli, jll, jlr, jat_0, jat_s, jst, jst2, jkill_i, jkill_r, jkill_l, jkill_n, jnone, jgv_0, jgv_1, jgv_2, jgv_3, jrv_s, jput_0, jput_1, jput_2, jput_3, jpop_0, jpop_1, jcl_s, jc1, jc2, jvi, Nat.reduceAdd, jol_i, jol_l, jol_n, List.map_cons, List.map_nil, List.sum_cons, List.sum_nil, jcI, jcL, jcR, Nat.zero_le, true_and, and_true, and_self, Nat.reduceLeDiff, gI_sI, gI_sL, gI_sR, gL_sI, gL_sL, gL_sR, gR_sI, gR_sL, gR_sR, gS_sI, gS_sL, gS_sR, gN_sI, gN_sL, gN_sR, true_or, or_true, false_or, or_false, Nat.reduceEqDiff, false_and, and_false, if_false, if_true, reduceIte, not_true_eq_false, not_false_eq_true, true_imp_iff, false_imp_iff, hW.1, s, q] | refine br_c (fun _ => ?_) (fun _ => ?_) | refine And.intro ?_ ?_)
  all_goals (first | exact h | (rw [if_pos (by grind)] at h; exact h) | (rw [if_neg (by grind)] at h; exact h))
theorem sM_isPlace {x : Int32} (hW : jWd L t μ) (hK : jTok T) (hX : gI μ 133 20 = nI (tP T)) (h : Q (some (.int (if 0 ≤ x ∧ x < nI (tP T) then 1 else 0))) μ) : jC (d + 1) 229 [.ref 133, .int x] μ Q := by
  refine e229 (b229_0 ?_)
  simp only [jx_blk, jx_op, j1i_c, j2i_c, j1l_c, j2l_c, jil_c, j1r_c, jri_c, jrii_c, jril_c, jrl_c, jrr_c, j2i'_c, jdup_i, jdup_r, jdup2_c, jdup2_l, jpo_c, jli, jll, jlr, jat_0, jat_s, jst, jst2, jkill_i, jkill_r, jkill_l, jkill_n, jnone, jgv_0, jgv_1, jgv_2, jgv_3, jrv_s, jput_0, jput_1, jput_2, jput_3, jpop_0, jpop_1, jcl_s, jc1, jc2, jvi, Nat.reduceAdd, jol_i, jol_l, jol_n, List.map_cons, List.map_nil, List.sum_cons, List.sum_nil, jcI, jcL, jcR, Nat.zero_le, true_and, and_true, and_self, Nat.reduceLeDiff, gI_sI, gI_sL, gI_sR, gL_sI, gL_sL, gL_sR, gR_sI, gR_sL, gR_sR, gS_sI, gS_sL, gS_sR, gN_sI, gN_sL, gN_sR, true_or, or_true, false_or, or_false, Nat.reduceEqDiff, false_and, and_false, if_false, if_true, reduceIte, not_true_eq_false, not_false_eq_true, true_imp_iff, false_imp_iff, jr_133_4 hW, jr_133_5 hW, jr_133_6 hW, jr_133_7 hW, jr_133_31 hW, jr_133_32 hW, jr_133_33 hW, jr_133_34 hW, jr_133_35 hW, jr_133_36 hW, jr_133_37 hW, jr_133_38 hW, jr_133_39 hW, jr_133_40 hW, jr_133_41 hW, jr_133_42 hW, jr_133_44 hW, jr_133_45 hW, jr_133_46 hW, jr_133_47 hW, jr_133_48 hW, jr_133_49 hW, jr_133_50 hW, jr_133_51 hW, jr_133_55 hW, jr_133_56 hW, jr_133_57 hW, jr_133_58 hW, jr_133_62 hW, jr_133_65 hW, jr_133_66 hW, jr_133_67 hW, jr_133_68 hW, jr_133_69 hW, jr_133_70 hW, jr_133_71 hW, jr_133_74 hW, jr_133_75 hW, hW.1, jS0_133, jS0_134, jS0_135, jS0_136, jS0_137, jS0_138, jS0_139, jS0_140, jS0_141, jS0_142, jS0_143, jS0_144, jS0_145, jS0_146, jS0_147, jS0_148, jS0_149, jS0_150, jS0_151, jS0_152, jS0_153, jS0_154, jS0_155, jS0_156, jS0_157, jS0_158, jS0_159, jS0_160, jS0_161, jS0_162, jS0_163, jS0_164, jS0_165, jS0_166, jS0_167, jS0_168, jS0_169, jS0_170, jS0_171, hX]
  refine sM_isIn32 (y := 0) (z := nI (tP T) - 1) (by decide) rfl ?_
  simp only [jx_blk, jx_op, j1i_c, j2i_c, j1l_c, j2l_c, jil_c, j1r_c, jri_c, jrii_c, jril_c, jrl_c, jrr_c, j2i'_c, jdup_i, jdup_r, jdup2_c, jdup2_l, jpo_c, jli, jll, jlr, jat_0, jat_s, jst, jst2, jkill_i, jkill_r, jkill_l, jkill_n, jnone, jgv_0, jgv_1, jgv_2, jgv_3, jrv_s, jput_0, jput_1, jput_2, jput_3, jpop_0, jpop_1, jcl_s, jc1, jc2, jvi, Nat.reduceAdd, jol_i, jol_l, jol_n, List.map_cons, List.map_nil, List.sum_cons, List.sum_nil, jcI, jcL, jcR, Nat.zero_le, true_and, and_true, and_self, Nat.reduceLeDiff, gI_sI, gI_sL, gI_sR, gL_sI, gL_sL, gL_sR, gR_sI, gR_sL, gR_sR, gS_sI, gS_sL, gS_sR, gN_sI, gN_sL, gN_sR, true_or, or_true, false_or, or_false, Nat.reduceEqDiff, false_and, and_false, if_false, if_true, reduceIte, not_true_eq_false, not_false_eq_true, true_imp_iff, false_imp_iff, jprd hK.1.1]
  refine And.intro ?_ h
  split
  · exact Or.inr rfl
  · exact Or.inl rfl
theorem jpl {x : Int32} {n : Nat} (hn : n ≤ 8) (h : 0 ≤ x ∧ x < nI n) : ∃ p, p < n ∧ x = nI p := by
  rcases pk_ix x (n := n) (by omega) with h2 | h2 | h2
  · exact absurd h2 (by grind)
  · exact absurd h2 (by grind)
  · exact h2
theorem jpl_n {p n : Nat} (hn : n ≤ 8) (h : p < n) : (0 : Int32) ≤ nI p ∧ nI p < nI n := ⟨nI_pos' (by omega), nI_lt h (by omega)⟩
theorem sp_isPlace_n {p : Nat} (hW : jWd L t μ) (hK : jTok T) (hX : jTX T t μ) (hp : p < tP T) (h : Q (some (.int 1)) μ) : jC d 79 [.ref t, .int (nI p)] μ Q := sp_isPlace hW hK hX (by rw [if_pos (jpl_n hK.1.1 hp)]; exact h)
theorem sp_sightOf {p : Nat} (hW : jWd L t μ) (hK : jTok T) (hX : jTX T t μ) (hp : p < tP T) (h : Q (some (.int (nI (tSi T p)))) μ) : jC (d + 1) 83 [.ref t, .int (nI p)] μ Q := by
  have s := jWs hW
  have r := jWr hW
  have q := hX.2.1 p hp
  have hp8 : p < 8 := by have := hK.1.1; omega
  have g1 := jcl_n (k := p) (by omega)
  have g2 : vp_in (nI p) 8 := vp_in_nI (by omega) (by omega)
  have g3 : ((1 : Int32) = 0) = False := by decide
  refine e83 (b83_0 ?_)
  repeat' (first | refine b83_17 ?_ | refine b83_18 ?_ | refine sp_isPlace_n hW hK hX hp ?_ | simp only [jx_blk, jx_op, j1i_c, j2i_c, j1l_c, j2l_c, jil_c, j1r_c, jri_c, jrii_c, jril_c, jrl_c, jrr_c, j2i'_c, jdup_i, jdup_r, jdup2_c, jdup2_l, jpo_c, jli, jll, jlr, jat_0, jat_s, jst, jst2, jkill_i, jkill_r, jkill_l, jkill_n, jnone, jgv_0, jgv_1, jgv_2, jgv_3, jrv_s, jput_0, jput_1, jput_2, jput_3, jpop_0, jpop_1, jcl_s, jc1, jc2, jvi, Nat.reduceAdd, jol_i, jol_l, jol_n, List.map_cons, List.map_nil, List.sum_cons, List.sum_nil, jcI, jcL, jcR, Nat.zero_le, true_and, and_true, and_self, Nat.reduceLeDiff, gI_sI, gI_sL, gI_sR, gL_sI, gL_sL, gL_sR, gR_sI, gR_sL, gR_sR, gS_sI, gS_sL, gS_sR, gN_sI, gN_sL, gN_sR, true_or, or_true, false_or, or_false, Nat.reduceEqDiff, false_and, and_false, if_false, if_true, reduceIte, not_true_eq_false, not_false_eq_true, true_imp_iff, false_imp_iff, hW.1, s, r, q.1, g1, g2, g3] | refine br_c (fun _ => ?_) (fun _ => ?_) | refine And.intro ?_ ?_)
  exact h
theorem sp_lanesAt {p : Nat} (hW : jWd L t μ) (hK : jTok T) (hX : jTX T t μ) (hp : p < tP T) (h : Q (some (.int (nI (tD T p)))) μ) : jC (d + 1) 86 [.ref t, .int (nI p)] μ Q := by
  have s := jWs hW
  have r := jWr hW
  have q := hX.2.1 p hp
  have hp8 : p < 8 := by have := hK.1.1; omega
  have g1 := jcl_n (k := p) (by omega)
  have g2 : vp_in (nI p) 8 := vp_in_nI (by omega) (by omega)
  have g3 : ((1 : Int32) = 0) = False := by decide
  refine e86 (b86_0 ?_)
  repeat' (first | refine b86_17 ?_ | refine b86_18 ?_ | refine sp_isPlace_n hW hK hX hp ?_ | simp only [jx_blk, jx_op, j1i_c, j2i_c, j1l_c, j2l_c, jil_c, j1r_c, jri_c, jrii_c, jril_c, jrl_c, jrr_c, j2i'_c, jdup_i, jdup_r, jdup2_c, jdup2_l, jpo_c, jli, jll, jlr, jat_0, jat_s, jst, jst2, jkill_i, jkill_r, jkill_l, jkill_n, jnone, jgv_0, jgv_1, jgv_2, jgv_3, jrv_s, jput_0, jput_1, jput_2, jput_3, jpop_0, jpop_1, jcl_s, jc1, jc2, jvi, Nat.reduceAdd, jol_i, jol_l, jol_n, List.map_cons, List.map_nil, List.sum_cons, List.sum_nil, jcI, jcL, jcR, Nat.zero_le, true_and, and_true, and_self, Nat.reduceLeDiff, gI_sI, gI_sL, gI_sR, gL_sI, gL_sL, gL_sR, gR_sI, gR_sL, gR_sR, gS_sI, gS_sL, gS_sR, gN_sI, gN_sL, gN_sR, true_or, or_true, false_or, or_false, Nat.reduceEqDiff, false_and, and_false, if_false, if_true, reduceIte, not_true_eq_false, not_false_eq_true, true_imp_iff, false_imp_iff, hW.1, s, r, q.2.2.2, g1, g2, g3] | refine br_c (fun _ => ?_) (fun _ => ?_) | refine And.intro ?_ ?_)
  exact h
theorem sp_leadsTo {p k : Nat} (hW : jWd L t μ) (hK : jTok T) (hX : jTX T t μ) (hp : p < tP T) (hk : k < 4) (h0 : tD T p ≤ k → Q (some (.int (-1))) μ) (h : k < tD T p → Q (some (.int (nI (tLe T p k)))) μ) : jC (d + 1) 88 [.ref t, .int (nI p), .int (nI k)] μ Q := by
  have s := jWs hW
  have r := jWr hW
  have q := hX.2.1 p hp
  have hp8 : p < 8 := by have := hK.1.1; omega
  have hd4 : tD T p ≤ 4 := (hK.2.1 p hp).2.2.2
  have g1 := jcl_n (k := p) (by omega)
  have g2 : vp_in (nI p) 8 := vp_in_nI (by omega) (by omega)
  have g3 : ((1 : Int32) = 0) = False := by decide
  have g4 := jN (nI_pos (n := k) (by omega))
  have g5 : ((4 : Int32) ≤ nI k) = False := jN (nI_ge (a := k) (b := 4) (by omega) (by omega))
  have g6 : nI p * 4 + nI k = nI (4 * p + k) := by
    rw [li_4, pk_mul, nI_add, Nat.mul_comm]
  have g7 := jcl_n (k := 4 * p + k) (by omega)
  have g8 : vp_in (nI (4 * p + k)) 32 := vp_in_nI (by omega) (by omega)
  refine e88 (b88_0 ?_)
  by_cases hc : k < tD T p
  · have g9 : (nI (tD T p) ≤ nI k) = False := jN (nI_ge hc (by omega))
    have g10 := (hX.2.2.1 p k hp hc).2
    repeat' (first | refine b88_31 ?_ | refine b88_32 ?_ | refine b88_50 ?_ | refine b88_51 ?_ | refine sp_isPlace_n hW hK hX hp ?_ | simp only [jx_blk, jx_op, j1i_c, j2i_c, j1l_c, j2l_c, jil_c, j1r_c, jri_c, jrii_c, jril_c, jrl_c, jrr_c, j2i'_c, jdup_i, jdup_r, jdup2_c, jdup2_l, jpo_c, jli, jll, jlr, jat_0, jat_s, jst, jst2, jkill_i, jkill_r, jkill_l, jkill_n, jnone, jgv_0, jgv_1, jgv_2, jgv_3, jrv_s, jput_0, jput_1, jput_2, jput_3, jpop_0, jpop_1, jcl_s, jc1, jc2, jvi, Nat.reduceAdd, jol_i, jol_l, jol_n, List.map_cons, List.map_nil, List.sum_cons, List.sum_nil, jcI, jcL, jcR, Nat.zero_le, true_and, and_true, and_self, Nat.reduceLeDiff, gI_sI, gI_sL, gI_sR, gL_sI, gL_sL, gL_sR, gR_sI, gR_sL, gR_sR, gS_sI, gS_sL, gS_sR, gN_sI, gN_sL, gN_sR, true_or, or_true, false_or, or_false, Nat.reduceEqDiff, false_and, and_false, if_false, if_true, reduceIte, not_true_eq_false, not_false_eq_true, true_imp_iff, false_imp_iff, hW.1, s, r, q.2.2.2, g1, g2, g3, g4, g5, g6, g7, g8, g9, g10] | refine br_c (fun _ => ?_) (fun _ => ?_) | refine And.intro ?_ ?_)
    exact h hc
  · have g9 : (nI (tD T p) ≤ nI k) = True := jP (nI_le (by omega) (by omega))
    repeat' (first | refine b88_31 ?_ | refine b88_32 ?_ | refine b88_50 ?_ | refine b88_51 ?_ | refine sp_isPlace_n hW hK hX hp ?_ | simp only [jx_blk, jx_op, j1i_c, j2i_c, j1l_c, j2l_c, jil_c, j1r_c, jri_c, jrii_c, jril_c, jrl_c, jrr_c, j2i'_c, jdup_i, jdup_r, jdup2_c, jdup2_l, jpo_c, jli, jll, jlr, jat_0, jat_s, jst, jst2, jkill_i, jkill_r, jkill_l, jkill_n, jnone, jgv_0, jgv_1, jgv_2, jgv_3, jrv_s, jput_0, jput_1, jput_2, jput_3, jpop_0, jpop_1, jcl_s, jc1, jc2, jvi, Nat.reduceAdd, jol_i, jol_l, jol_n, List.map_cons, List.map_nil, List.sum_cons, List.sum_nil, jcI, jcL, jcR, Nat.zero_le, true_and, and_true, and_self, Nat.reduceLeDiff, gI_sI, gI_sL, gI_sR, gL_sI, gL_sL, gL_sR, gR_sI, gR_sL, gR_sR, gS_sI, gS_sL, gS_sR, gN_sI, gN_sL, gN_sR, true_or, or_true, false_or, or_false, Nat.reduceEqDiff, false_and, and_false, if_false, if_true, reduceIte, not_true_eq_false, not_false_eq_true, true_imp_iff, false_imp_iff, hW.1, s, r, q.2.2.2, g1, g2, g3, g4, g5, g9] | refine br_c (fun _ => ?_) (fun _ => ?_) | refine And.intro ?_ ?_)
    exact h0 (by omega)
/-- what place answers -/
def tPl (T : jT) (p j : Nat) : Nat := if j = 0 then tSi T p else if j = 1 then tD T p else tLe T p (j - 2)
theorem sX_place {x1 x2 : Int32} (hW : jWd L t μ) (hK : jTok T) (hX : jTX T t μ) (h2 : ¬ (0 ≤ x1 ∧ x1 < nI (tP T)) → Q (some (.int (-1))) (sI μ 1 0 2))
    (h5 : ∀ p, p < tP T → x1 = nI p → ¬ (0 ≤ x2 ∧ x2 ≤ 5) → Q (some (.int (-1))) (sI μ 1 0 5)) (h8 : ∀ p j, p < tP T → x1 = nI p → j ≤ 5 → x2 = nI j → 2 ≤ j ∧ tD T p ≤ j - 2 → Q (some (.int (-1))) (sI μ 1 0 8))
    (h : ∀ p j, p < tP T → x1 = nI p → j ≤ 5 → x2 = nI j → ¬ (2 ≤ j ∧ tD T p ≤ j - 2) → Q (some (.int (nI (tPl T p j)))) (sI μ 1 0 0)) : jC (d + 2) 150 [.ref 1, .int x1, .int x2] μ Q := by
  have w := jWt0 hW
  have g3 : ((1 : Int32) = 0) = False := by decide
  have g30 : ((0 : Int32) = 0) = True := by decide
  refine e150 (b150_0 ?_)
  by_cases c1 : 0 ≤ x1 ∧ x1 < nI (tP T)
  case neg =>
    repeat' (first | refine b150_17 ?_ | refine b150_26 ?_ | refine b150_32 ?_ | refine b150_49 ?_ | refine b150_67 ?_ | refine b150_93 ?_ | refine b150_98 ?_ | refine sp_isPlace hW hK hX ?_ | refine sX_none hW ?_ | simp only [jx_blk, jx_op, j1i_c, j2i_c, j1l_c, j2l_c, jil_c, j1r_c, jri_c, jrii_c, jril_c, jrl_c, jrr_c, j2i'_c, jdup_i, jdup_r, jdup2_c, jdup2_l, jpo_c, jli, jll, jlr, jat_0, jat_s, jst, jst2, jkill_i, jkill_r, jkill_l, jkill_n, jnone, jgv_0, jgv_1, jgv_2, jgv_3, jrv_s, jput_0, jput_1, jput_2, jput_3, jpop_0, jpop_1, jcl_s, jc1, jc2, jvi, Nat.reduceAdd, jol_i, jol_l, jol_n, List.map_cons, List.map_nil, List.sum_cons, List.sum_nil, jcI, jcL, jcR, Nat.zero_le, true_and, and_true, and_self, Nat.reduceLeDiff, gI_sI, gI_sL, gI_sR, gL_sI, gL_sL, gL_sR, gR_sI, gR_sL, gR_sR, gS_sI, gS_sL, gS_sR, gN_sI, gN_sL, gN_sR, true_or, or_true, false_or, or_false, Nat.reduceEqDiff, false_and, and_false, if_false, if_true, reduceIte, not_true_eq_false, not_false_eq_true, true_imp_iff, false_imp_iff, jr_1_3 hW, jr_1_4 hW, jr_1_7 hW, jr_1_8 hW, jr_1_9 hW, jr_1_10 hW, jr_1_11 hW, jr_1_12 hW, jr_1_13 hW, hW.1, jS0_1, jS0_2, jS0_10, jS0_34, jS0_38, jS0_43, jS0_102, jS0_112, jS0_122, jS0_128, w, (jWs hW).1, c1, g30] | refine br_c (fun _ => ?_) (fun _ => ?_) | refine And.intro ?_ ?_)
    exact h2 c1
  obtain ⟨p, hp, rfl⟩ := jpl hK.1.1 c1
  by_cases c2 : 0 ≤ x2 ∧ x2 ≤ 5
  case neg =>
    repeat' (first | refine b150_17 ?_ | refine b150_26 ?_ | refine b150_49 ?_ | refine b150_67 ?_ | refine b150_93 ?_ | refine b150_98 ?_ | refine sp_isPlace_n hW hK hX hp ?_ | refine sX_none hW ?_ | simp only [jx_blk, jx_op, j1i_c, j2i_c, j1l_c, j2l_c, jil_c, j1r_c, jri_c, jrii_c, jril_c, jrl_c, jrr_c, j2i'_c, jdup_i, jdup_r, jdup2_c, jdup2_l, jpo_c, jli, jll, jlr, jat_0, jat_s, jst, jst2, jkill_i, jkill_r, jkill_l, jkill_n, jnone, jgv_0, jgv_1, jgv_2, jgv_3, jrv_s, jput_0, jput_1, jput_2, jput_3, jpop_0, jpop_1, jcl_s, jc1, jc2, jvi, Nat.reduceAdd, jol_i, jol_l, jol_n, List.map_cons, List.map_nil, List.sum_cons, List.sum_nil, jcI, jcL, jcR, Nat.zero_le, true_and, and_true, and_self, Nat.reduceLeDiff, gI_sI, gI_sL, gI_sR, gL_sI, gL_sL, gL_sR, gR_sI, gR_sL, gR_sR, gS_sI, gS_sL, gS_sR, gN_sI, gN_sL, gN_sR, true_or, or_true, false_or, or_false, Nat.reduceEqDiff, false_and, and_false, if_false, if_true, reduceIte, not_true_eq_false, not_false_eq_true, true_imp_iff, false_imp_iff, jr_1_3 hW, jr_1_4 hW, jr_1_7 hW, jr_1_8 hW, jr_1_9 hW, jr_1_10 hW, jr_1_11 hW, jr_1_12 hW, jr_1_13 hW, hW.1, jS0_1, jS0_2, jS0_10, jS0_34, jS0_38, jS0_43, jS0_102, jS0_112, jS0_122, jS0_128, w, (jWs hW).1, g3] | refine br_c (fun _ => ?_) (fun _ => ?_) | refine And.intro ?_ ?_)
    all_goals (first | exact h5 p hp rfl c2 | (exfalso; clear h h5 h8 h2; grind))
  obtain ⟨j, hj, rfl⟩ : ∃ j, j < 6 ∧ x2 = nI j := by
    rcases pk_ix x2 (n := 6) (by omega) with h3 | h3 | h3
    · exact absurd h3 (by grind)
    · rw [← li_6] at h3; exact absurd h3 (by grind)
    · exact h3
  have a0 := nI_pos' (n := j) (by omega)
  have a5 : (nI j ≤ 5) = True := jP c2.2
  by_cases c8 : 2 ≤ j ∧ tD T p ≤ j - 2
  · have n1 : (nI j = 1) = False := jN (fun q => by have := (nI_eq (a := j) (b := 1) (by omega) (by omega)).mp q; omega)
    have n0 : (nI j = 0) = False := jN (fun q => by have := (nI_eq (a := j) (b := 0) (by omega) (by omega)).mp q; omega)
    have n2 : nI j - 2 = nI (j - 2) := pk_sub (b := 2) (by omega)
    have l0 := jN (nI_pos (n := j) (by omega))
    repeat' (first | refine b150_17 ?_ | refine b150_26 ?_ | refine b150_32 ?_ | refine b150_49 ?_ | refine b150_67 ?_ | refine b150_93 ?_ | refine b150_98 ?_ | refine sp_isPlace_n hW hK hX hp ?_ | refine sp_leadsTo hW hK hX hp (by omega) (fun _ => ?_) (fun q => absurd q (by omega)) | refine sX_none hW ?_ | simp only [jx_blk, jx_op, j1i_c, j2i_c, j1l_c, j2l_c, jil_c, j1r_c, jri_c, jrii_c, jril_c, jrl_c, jrr_c, j2i'_c, jdup_i, jdup_r, jdup2_c, jdup2_l, jpo_c, jli, jll, jlr, jat_0, jat_s, jst, jst2, jkill_i, jkill_r, jkill_l, jkill_n, jnone, jgv_0, jgv_1, jgv_2, jgv_3, jrv_s, jput_0, jput_1, jput_2, jput_3, jpop_0, jpop_1, jcl_s, jc1, jc2, jvi, Nat.reduceAdd, jol_i, jol_l, jol_n, List.map_cons, List.map_nil, List.sum_cons, List.sum_nil, jcI, jcL, jcR, Nat.zero_le, true_and, and_true, and_self, Nat.reduceLeDiff, gI_sI, gI_sL, gI_sR, gL_sI, gL_sL, gL_sR, gR_sI, gR_sL, gR_sR, gS_sI, gS_sL, gS_sR, gN_sI, gN_sL, gN_sR, true_or, or_true, false_or, or_false, Nat.reduceEqDiff, false_and, and_false, if_false, if_true, reduceIte, not_true_eq_false, not_false_eq_true, true_imp_iff, false_imp_iff, jr_1_3 hW, jr_1_4 hW, jr_1_7 hW, jr_1_8 hW, jr_1_9 hW, jr_1_10 hW, jr_1_11 hW, jr_1_12 hW, jr_1_13 hW, hW.1, jS0_1, jS0_2, jS0_10, jS0_34, jS0_38, jS0_43, jS0_102, jS0_112, jS0_122, jS0_128, w, (jWs hW).1, g3, a0, a5, n0, n1, n2, l0] | refine br_c (fun _ => ?_) (fun _ => ?_) | refine And.intro ?_ ?_)
    exact h8 p j hp rfl (by omega) rfl c8
  by_cases j0 : j = 0
  · subst j0
    repeat' (first | refine b150_17 ?_ | refine b150_26 ?_ | refine b150_32 ?_ | refine b150_49 ?_ | refine b150_67 ?_ | refine b150_93 ?_ | refine b150_98 ?_ | refine sp_isPlace_n hW hK hX hp ?_ | refine sp_sightOf hW hK hX hp ?_ | refine sX_answer hW ?_ | simp only [jx_blk, jx_op, j1i_c, j2i_c, j1l_c, j2l_c, jil_c, j1r_c, jri_c, jrii_c, jril_c, jrl_c, jrr_c, j2i'_c, jdup_i, jdup_r, jdup2_c, jdup2_l, jpo_c, jli, jll, jlr, jat_0, jat_s, jst, jst2, jkill_i, jkill_r, jkill_l, jkill_n, jnone, jgv_0, jgv_1, jgv_2, jgv_3, jrv_s, jput_0, jput_1, jput_2, jput_3, jpop_0, jpop_1, jcl_s, jc1, jc2, jvi, Nat.reduceAdd, jol_i, jol_l, jol_n, List.map_cons, List.map_nil, List.sum_cons, List.sum_nil, jcI, jcL, jcR, Nat.zero_le, true_and, and_true, and_self, Nat.reduceLeDiff, gI_sI, gI_sL, gI_sR, gL_sI, gL_sL, gL_sR, gR_sI, gR_sL, gR_sR, gS_sI, gS_sL, gS_sR, gN_sI, gN_sL, gN_sR, true_or, or_true, false_or, or_false, Nat.reduceEqDiff, false_and, and_false, if_false, if_true, reduceIte, not_true_eq_false, not_false_eq_true, true_imp_iff, false_imp_iff, jr_1_3 hW, jr_1_4 hW, jr_1_7 hW, jr_1_8 hW, jr_1_9 hW, jr_1_10 hW, jr_1_11 hW, jr_1_12 hW, jr_1_13 hW, hW.1, jS0_1, jS0_2, jS0_10, jS0_34, jS0_38, jS0_43, jS0_102, jS0_112, jS0_122, jS0_128, w, (jWs hW).1, g3, show (nI 0 < 0) = False by decide, show (nI 0 ≤ 5) = True by decide, show (nI 0 = 0) = True by decide] | refine br_c (fun _ => ?_) (fun _ => ?_) | refine And.intro ?_ ?_)
    exact h p 0 hp rfl (by omega) rfl c8
  by_cases j1 : j = 1
  · subst j1
    repeat' (first | refine b150_17 ?_ | refine b150_26 ?_ | refine b150_32 ?_ | refine b150_49 ?_ | refine b150_67 ?_ | refine b150_93 ?_ | refine b150_98 ?_ | refine sp_isPlace_n hW hK hX hp ?_ | refine sp_lanesAt hW hK hX hp ?_ | refine sX_answer hW ?_ | simp only [jx_blk, jx_op, j1i_c, j2i_c, j1l_c, j2l_c, jil_c, j1r_c, jri_c, jrii_c, jril_c, jrl_c, jrr_c, j2i'_c, jdup_i, jdup_r, jdup2_c, jdup2_l, jpo_c, jli, jll, jlr, jat_0, jat_s, jst, jst2, jkill_i, jkill_r, jkill_l, jkill_n, jnone, jgv_0, jgv_1, jgv_2, jgv_3, jrv_s, jput_0, jput_1, jput_2, jput_3, jpop_0, jpop_1, jcl_s, jc1, jc2, jvi, Nat.reduceAdd, jol_i, jol_l, jol_n, List.map_cons, List.map_nil, List.sum_cons, List.sum_nil, jcI, jcL, jcR, Nat.zero_le, true_and, and_true, and_self, Nat.reduceLeDiff, gI_sI, gI_sL, gI_sR, gL_sI, gL_sL, gL_sR, gR_sI, gR_sL, gR_sR, gS_sI, gS_sL, gS_sR, gN_sI, gN_sL, gN_sR, true_or, or_true, false_or, or_false, Nat.reduceEqDiff, false_and, and_false, if_false, if_true, reduceIte, not_true_eq_false, not_false_eq_true, true_imp_iff, false_imp_iff, jr_1_3 hW, jr_1_4 hW, jr_1_7 hW, jr_1_8 hW, jr_1_9 hW, jr_1_10 hW, jr_1_11 hW, jr_1_12 hW, jr_1_13 hW, hW.1, jS0_1, jS0_2, jS0_10, jS0_34, jS0_38, jS0_43, jS0_102, jS0_112, jS0_122, jS0_128, w, (jWs hW).1, g3, show (nI 1 < 0) = False by decide, show (nI 1 ≤ 5) = True by decide, show (nI 1 = 0) = False by decide, show (nI 1 = 1) = True by decide] | refine br_c (fun _ => ?_) (fun _ => ?_) | refine And.intro ?_ ?_)
    exact h p 1 hp rfl (by omega) rfl c8
  have n1 : (nI j = 1) = False := jN (fun q => by have := (nI_eq (a := j) (b := 1) (by omega) (by omega)).mp q; omega)
  have n0 : (nI j = 0) = False := jN (fun q => by have := (nI_eq (a := j) (b := 0) (by omega) (by omega)).mp q; omega)
  have n2 : nI j - 2 = nI (j - 2) := pk_sub (b := 2) (by omega)
  have l0 := jN (nI_pos (n := j) (by omega))
  have lm : (nI (tLe T p (j - 2)) = -1) = False := jN (fun q => by
    have hb := hK.2.2.1 p (j - 2) hp (by omega)
    have ho := hK.2.2.2 _ hb.1
    have : tLe T p (j - 2) < 100 := by
      have := hK.1.1
      unfold tLe
      split <;> omega
    have h9 := nI_pos' (n := tLe T p (j - 2)) (by omega)
    rw [q] at h9
    exact absurd h9 (of_eq_false jm1_ge))
  have e : tPl T p j = tLe T p (j - 2) := by unfold tPl; rw [if_neg j0, if_neg j1]
  repeat' (first | refine b150_17 ?_ | refine b150_26 ?_ | refine b150_32 ?_ | refine b150_49 ?_ | refine b150_67 ?_ | refine b150_93 ?_ | refine b150_98 ?_ | refine sp_isPlace_n hW hK hX hp ?_ | refine sp_leadsTo hW hK hX hp (by omega) (fun q => absurd q (by omega)) (fun _ => ?_) | refine sX_answer hW ?_ | simp only [jx_blk, jx_op, j1i_c, j2i_c, j1l_c, j2l_c, jil_c, j1r_c, jri_c, jrii_c, jril_c, jrl_c, jrr_c, j2i'_c, jdup_i, jdup_r, jdup2_c, jdup2_l, jpo_c, jli, jll, jlr, jat_0, jat_s, jst, jst2, jkill_i, jkill_r, jkill_l, jkill_n, jnone, jgv_0, jgv_1, jgv_2, jgv_3, jrv_s, jput_0, jput_1, jput_2, jput_3, jpop_0, jpop_1, jcl_s, jc1, jc2, jvi, Nat.reduceAdd, jol_i, jol_l, jol_n, List.map_cons, List.map_nil, List.sum_cons, List.sum_nil, jcI, jcL, jcR, Nat.zero_le, true_and, and_true, and_self, Nat.reduceLeDiff, gI_sI, gI_sL, gI_sR, gL_sI, gL_sL, gL_sR, gR_sI, gR_sL, gR_sR, gS_sI, gS_sL, gS_sR, gN_sI, gN_sL, gN_sR, true_or, or_true, false_or, or_false, Nat.reduceEqDiff, false_and, and_false, if_false, if_true, reduceIte, not_true_eq_false, not_false_eq_true, true_imp_iff, false_imp_iff, jr_1_3 hW, jr_1_4 hW, jr_1_7 hW, jr_1_8 hW, jr_1_9 hW, jr_1_10 hW, jr_1_11 hW, jr_1_12 hW, jr_1_13 hW, hW.1, jS0_1, jS0_2, jS0_10, jS0_34, jS0_38, jS0_43, jS0_102, jS0_112, jS0_122, jS0_128, w, (jWs hW).1, g3, a0, a5, n0, n1, n2, l0, lm] | refine br_c (fun _ => ?_) (fun _ => ?_) | refine And.intro ?_ ?_)
  rw [← e]
  exact h p j hp rfl (by omega) rfl c8
theorem sM_over {l p : Nat} (hW : jWd L t μ) (hK : jTok T) (hM : jTM T μ) (hl : l < tLn T) (hp : p < tP T) (h : Q (some (.int (nI (if tO T l = p then tQ T l else tO T l)))) μ) : jC d 233 [.ref 133, .int (nI l), .int (nI p)] μ Q := by
  have hl12 : l < 12 := by have := hK.1.2.1; omega
  have hp8 := hK.1.1
  have q := hM.2.2.2 l hl
  have ho := hK.2.2.2 l hl
  have g1 := jcl_n (k := l) (by omega)
  have g2 : vp_in (nI l) 12 := vp_in_nI (by omega) (by omega)
  refine e233 (b233_0 ?_)
  by_cases c : tO T l = p
  · have g3 : (nI (tO T l) = nI p) = True := jP (by rw [c])
    rw [if_pos c] at h
    repeat' (first | refine b233_19 ?_ | refine b233_25 ?_ | simp only [jx_blk, jx_op, j1i_c, j2i_c, j1l_c, j2l_c, jil_c, j1r_c, jri_c, jrii_c, jril_c, jrl_c, jrr_c, j2i'_c, jdup_i, jdup_r, jdup2_c, jdup2_l, jpo_c, jli, jll, jlr, jat_0, jat_s, jst, jst2, jkill_i, jkill_r, jkill_l, jkill_n, jnone, jgv_0, jgv_1, jgv_2, jgv_3, jrv_s, jput_0, jput_1, jput_2, jput_3, jpop_0, jpop_1, jcl_s, jc1, jc2, jvi, Nat.reduceAdd, jol_i, jol_l, jol_n, List.map_cons, List.map_nil, List.sum_cons, List.sum_nil, jcI, jcL, jcR, Nat.zero_le, true_and, and_true, and_self, Nat.reduceLeDiff, gI_sI, gI_sL, gI_sR, gL_sI, gL_sL, gL_sR, gR_sI, gR_sL, gR_sR, gS_sI, gS_sL, gS_sR, gN_sI, gN_sL, gN_sR, true_or, or_true, false_or, or_false, Nat.reduceEqDiff, false_and, and_false, if_false, if_true, reduceIte, not_true_eq_false, not_false_eq_true, true_imp_iff, false_imp_iff, jr_133_4 hW, jr_133_5 hW, jr_133_6 hW, jr_133_7 hW, jr_133_31 hW, jr_133_32 hW, jr_133_33 hW, jr_133_34 hW, jr_133_35 hW, jr_133_36 hW, jr_133_37 hW, jr_133_38 hW, jr_133_39 hW, jr_133_40 hW, jr_133_41 hW, jr_133_42 hW, jr_133_44 hW, jr_133_45 hW, jr_133_46 hW, jr_133_47 hW, jr_133_48 hW, jr_133_49 hW, jr_133_50 hW, jr_133_51 hW, jr_133_55 hW, jr_133_56 hW, jr_133_57 hW, jr_133_58 hW, jr_133_62 hW, jr_133_65 hW, jr_133_66 hW, jr_133_67 hW, jr_133_68 hW, jr_133_69 hW, jr_133_70 hW, jr_133_71 hW, jr_133_74 hW, jr_133_75 hW, hW.1, jS0_133, jS0_134, jS0_135, jS0_136, jS0_137, jS0_138, jS0_139, jS0_140, jS0_141, jS0_142, jS0_143, jS0_144, jS0_145, jS0_146, jS0_147, jS0_148, jS0_149, jS0_150, jS0_151, jS0_152, jS0_153, jS0_154, jS0_155, jS0_156, jS0_157, jS0_158, jS0_159, jS0_160, jS0_161, jS0_162, jS0_163, jS0_164, jS0_165, jS0_166, jS0_167, jS0_168, jS0_169, jS0_170, jS0_171, g1, g2, q.1, q.2.1, g3] | refine br_c (fun _ => ?_) (fun _ => ?_) | refine And.intro ?_ ?_)
    exact h
  · have g3 : (nI (tO T l) = nI p) = False := jN (fun z => c ((nI_eq (by omega) (by omega)).mp z))
    rw [if_neg c] at h
    repeat' (first | refine b233_19 ?_ | refine b233_25 ?_ | simp only [jx_blk, jx_op, j1i_c, j2i_c, j1l_c, j2l_c, jil_c, j1r_c, jri_c, jrii_c, jril_c, jrl_c, jrr_c, j2i'_c, jdup_i, jdup_r, jdup2_c, jdup2_l, jpo_c, jli, jll, jlr, jat_0, jat_s, jst, jst2, jkill_i, jkill_r, jkill_l, jkill_n, jnone, jgv_0, jgv_1, jgv_2, jgv_3, jrv_s, jput_0, jput_1, jput_2, jput_3, jpop_0, jpop_1, jcl_s, jc1, jc2, jvi, Nat.reduceAdd, jol_i, jol_l, jol_n, List.map_cons, List.map_nil, List.sum_cons, List.sum_nil, jcI, jcL, jcR, Nat.zero_le, true_and, and_true, and_self, Nat.reduceLeDiff, gI_sI, gI_sL, gI_sR, gL_sI, gL_sL, gL_sR, gR_sI, gR_sL, gR_sR, gS_sI, gS_sL, gS_sR, gN_sI, gN_sL, gN_sR, true_or, or_true, false_or, or_false, Nat.reduceEqDiff, false_and, and_false, if_false, if_true, reduceIte, not_true_eq_false, not_false_eq_true, true_imp_iff, false_imp_iff, jr_133_4 hW, jr_133_5 hW, jr_133_6 hW, jr_133_7 hW, jr_133_31 hW, jr_133_32 hW, jr_133_33 hW, jr_133_34 hW, jr_133_35 hW, jr_133_36 hW, jr_133_37 hW, jr_133_38 hW, jr_133_39 hW, jr_133_40 hW, jr_133_41 hW, jr_133_42 hW, jr_133_44 hW, jr_133_45 hW, jr_133_46 hW, jr_133_47 hW, jr_133_48 hW, jr_133_49 hW, jr_133_50 hW, jr_133_51 hW, jr_133_55 hW, jr_133_56 hW, jr_133_57 hW, jr_133_58 hW, jr_133_62 hW, jr_133_65 hW, jr_133_66 hW, jr_133_67 hW, jr_133_68 hW, jr_133_69 hW, jr_133_70 hW, jr_133_71 hW, jr_133_74 hW, jr_133_75 hW, hW.1, jS0_133, jS0_134, jS0_135, jS0_136, jS0_137, jS0_138, jS0_139, jS0_140, jS0_141, jS0_142, jS0_143, jS0_144, jS0_145, jS0_146, jS0_147, jS0_148, jS0_149, jS0_150, jS0_151, jS0_152, jS0_153, jS0_154, jS0_155, jS0_156, jS0_157, jS0_158, jS0_159, jS0_160, jS0_161, jS0_162, jS0_163, jS0_164, jS0_165, jS0_166, jS0_167, jS0_168, jS0_169, jS0_170, jS0_171, g1, g2, q.1, q.2.1, g3] | refine br_c (fun _ => ?_) (fun _ => ?_) | refine And.intro ?_ ?_)
    exact h
theorem sM_leads {p k : Nat} (hW : jWd L t μ) (hK : jTok T) (hM : jTM T μ) (hp : p < tP T) (hk : k < tD T p) (h : Q (some (.int (nI (tLe T p k)))) μ) : jC (d + 1) 232 [.ref 133, .int (nI p), .int (nI k)] μ Q := by
  have hp8 := hK.1.1
  have hd4 : tD T p ≤ 4 := (hK.2.1 p hp).2.2.2
  have g1 := jcl_n (k := p) (by omega)
  have g2 : vp_in (nI p) 8 := vp_in_nI (by omega) (by omega)
  have g4 := jN (nI_pos (n := k) (by omega))
  have g6 : 4 * nI p + nI k = nI (4 * p + k) := by
    rw [li_4, pk_mul, nI_add]
  have g7 := jcl_n (k := 4 * p + k) (by omega)
  have g8 : vp_in (nI (4 * p + k)) 32 := vp_in_nI (by omega) (by omega)
  have g9 : (nI (tD T p) ≤ nI k) = False := jN (nI_ge hk (by omega))
  have q := (hM.2.1 p hp).2.2.2
  have q2 := hM.2.2.1 p k hp hk
  have hl := (hK.2.2.1 p k hp hk).1
  refine e232 (b232_0 ?_)
  repeat' (first | refine b232_32 ?_ | refine b232_33 ?_ | refine sM_over hW hK hM hl hp ?_ | simp only [jx_blk, jx_op, j1i_c, j2i_c, j1l_c, j2l_c, jil_c, j1r_c, jri_c, jrii_c, jril_c, jrl_c, jrr_c, j2i'_c, jdup_i, jdup_r, jdup2_c, jdup2_l, jpo_c, jli, jll, jlr, jat_0, jat_s, jst, jst2, jkill_i, jkill_r, jkill_l, jkill_n, jnone, jgv_0, jgv_1, jgv_2, jgv_3, jrv_s, jput_0, jput_1, jput_2, jput_3, jpop_0, jpop_1, jcl_s, jc1, jc2, jvi, Nat.reduceAdd, jol_i, jol_l, jol_n, List.map_cons, List.map_nil, List.sum_cons, List.sum_nil, jcI, jcL, jcR, Nat.zero_le, true_and, and_true, and_self, Nat.reduceLeDiff, gI_sI, gI_sL, gI_sR, gL_sI, gL_sL, gL_sR, gR_sI, gR_sL, gR_sR, gS_sI, gS_sL, gS_sR, gN_sI, gN_sL, gN_sR, true_or, or_true, false_or, or_false, Nat.reduceEqDiff, false_and, and_false, if_false, if_true, reduceIte, not_true_eq_false, not_false_eq_true, true_imp_iff, false_imp_iff, jr_133_4 hW, jr_133_5 hW, jr_133_6 hW, jr_133_7 hW, jr_133_31 hW, jr_133_32 hW, jr_133_33 hW, jr_133_34 hW, jr_133_35 hW, jr_133_36 hW, jr_133_37 hW, jr_133_38 hW, jr_133_39 hW, jr_133_40 hW, jr_133_41 hW, jr_133_42 hW, jr_133_44 hW, jr_133_45 hW, jr_133_46 hW, jr_133_47 hW, jr_133_48 hW, jr_133_49 hW, jr_133_50 hW, jr_133_51 hW, jr_133_55 hW, jr_133_56 hW, jr_133_57 hW, jr_133_58 hW, jr_133_62 hW, jr_133_65 hW, jr_133_66 hW, jr_133_67 hW, jr_133_68 hW, jr_133_69 hW, jr_133_70 hW, jr_133_71 hW, jr_133_74 hW, jr_133_75 hW, hW.1, jS0_133, jS0_134, jS0_135, jS0_136, jS0_137, jS0_138, jS0_139, jS0_140, jS0_141, jS0_142, jS0_143, jS0_144, jS0_145, jS0_146, jS0_147, jS0_148, jS0_149, jS0_150, jS0_151, jS0_152, jS0_153, jS0_154, jS0_155, jS0_156, jS0_157, jS0_158, jS0_159, jS0_160, jS0_161, jS0_162, jS0_163, jS0_164, jS0_165, jS0_166, jS0_167, jS0_168, jS0_169, jS0_170, jS0_171, g1, g2, g4, g6, g7, g8, g9, q, q2] | refine br_c (fun _ => ?_) (fun _ => ?_) | refine And.intro ?_ ?_)
  exact h
theorem sM_place {x1 x2 : Int32} (hW : jWd L t μ) (hK : jTok T) (hM : jTM T μ) (h2 : ¬ (0 ≤ x1 ∧ x1 < nI (tP T)) → Q (some (.int (-1))) (sI (sI (sI μ 133 1 0) 133 0 0) 133 0 2))
    (h5 : ∀ p, p < tP T → x1 = nI p → ¬ (0 ≤ x2 ∧ x2 ≤ 5) → Q (some (.int (-1))) (sI (sI (sI μ 133 1 0) 133 0 0) 133 0 5)) (h8 : ∀ p j, p < tP T → x1 = nI p → j ≤ 5 → x2 = nI j → 2 ≤ j ∧ tD T p ≤ j - 2 → Q (some (.int (-1))) (sI (sI (sI μ 133 1 0) 133 0 0) 133 0 8))
    (h : ∀ p j, p < tP T → x1 = nI p → j ≤ 5 → x2 = nI j → ¬ (2 ≤ j ∧ tD T p ≤ j - 2) → Q (some (.int (nI (tPl T p j)))) (sI (sI μ 133 1 0) 133 0 0)) : jC (d + 3) 237 [.ref 133, .int x1, .int x2] μ Q := by
  have hM2 : jTM T (sI (sI μ 133 1 0) 133 0 0) := jTM_of (fun a k hx => by rw [gI_sI, gI_sI, if_neg (by omega), if_neg (by omega)]) hM
  have hW2 : jWd L t (sI (sI μ 133 1 0) 133 0 0) := hW
  have g3 : ((1 : Int32) = 0) = False := by decide
  have g30 : ((0 : Int32) = 0) = True := by decide
  refine e237 (b237_0 ?_)
  by_cases c1 : 0 ≤ x1 ∧ x1 < nI (tP T)
  case neg =>
    repeat' (first | refine b237_42 ?_ | refine b237_66 ?_ | refine b237_81 ?_ | refine b237_95 ?_ | refine b237_103 ?_ | refine sM_isPlace hW2 hK hM2.1.1 ?_ | refine sM_refuse hW2 ?_ | simp only [jx_blk, jx_op, j1i_c, j2i_c, j1l_c, j2l_c, jil_c, j1r_c, jri_c, jrii_c, jril_c, jrl_c, jrr_c, j2i'_c, jdup_i, jdup_r, jdup2_c, jdup2_l, jpo_c, jli, jll, jlr, jat_0, jat_s, jst, jst2, jkill_i, jkill_r, jkill_l, jkill_n, jnone, jgv_0, jgv_1, jgv_2, jgv_3, jrv_s, jput_0, jput_1, jput_2, jput_3, jpop_0, jpop_1, jcl_s, jc1, jc2, jvi, Nat.reduceAdd, jol_i, jol_l, jol_n, List.map_cons, List.map_nil, List.sum_cons, List.sum_nil, jcI, jcL, jcR, Nat.zero_le, true_and, and_true, and_self, Nat.reduceLeDiff, gI_sI, gI_sL, gI_sR, gL_sI, gL_sL, gL_sR, gR_sI, gR_sL, gR_sR, gS_sI, gS_sL, gS_sR, gN_sI, gN_sL, gN_sR, true_or, or_true, false_or, or_false, Nat.reduceEqDiff, false_and, and_false, if_false, if_true, reduceIte, not_true_eq_false, not_false_eq_true, true_imp_iff, false_imp_iff, jr_133_4 hW, jr_133_5 hW, jr_133_6 hW, jr_133_7 hW, jr_133_31 hW, jr_133_32 hW, jr_133_33 hW, jr_133_34 hW, jr_133_35 hW, jr_133_36 hW, jr_133_37 hW, jr_133_38 hW, jr_133_39 hW, jr_133_40 hW, jr_133_41 hW, jr_133_42 hW, jr_133_44 hW, jr_133_45 hW, jr_133_46 hW, jr_133_47 hW, jr_133_48 hW, jr_133_49 hW, jr_133_50 hW, jr_133_51 hW, jr_133_55 hW, jr_133_56 hW, jr_133_57 hW, jr_133_58 hW, jr_133_62 hW, jr_133_65 hW, jr_133_66 hW, jr_133_67 hW, jr_133_68 hW, jr_133_69 hW, jr_133_70 hW, jr_133_71 hW, jr_133_74 hW, jr_133_75 hW, hW.1, jS0_133, jS0_134, jS0_135, jS0_136, jS0_137, jS0_138, jS0_139, jS0_140, jS0_141, jS0_142, jS0_143, jS0_144, jS0_145, jS0_146, jS0_147, jS0_148, jS0_149, jS0_150, jS0_151, jS0_152, jS0_153, jS0_154, jS0_155, jS0_156, jS0_157, jS0_158, jS0_159, jS0_160, jS0_161, jS0_162, jS0_163, jS0_164, jS0_165, jS0_166, jS0_167, jS0_168, jS0_169, jS0_170, jS0_171, c1, g30] | refine br_c (fun _ => ?_) (fun _ => ?_) | refine And.intro ?_ ?_)
    exact h2 c1
  obtain ⟨p, hp, rfl⟩ := jpl hK.1.1 c1
  by_cases c2 : 0 ≤ x2 ∧ x2 ≤ 5
  case neg =>
    repeat' (first | refine b237_24 ?_ | refine b237_66 ?_ | refine b237_81 ?_ | refine b237_95 ?_ | refine b237_103 ?_ | refine sM_isPlace hW2 hK hM2.1.1 ?_ | refine sM_isIn32 (y := 0) (z := 5) (by decide) (by decide) ?_ | refine sM_refuse hW2 ?_ | simp only [jx_blk, jx_op, j1i_c, j2i_c, j1l_c, j2l_c, jil_c, j1r_c, jri_c, jrii_c, jril_c, jrl_c, jrr_c, j2i'_c, jdup_i, jdup_r, jdup2_c, jdup2_l, jpo_c, jli, jll, jlr, jat_0, jat_s, jst, jst2, jkill_i, jkill_r, jkill_l, jkill_n, jnone, jgv_0, jgv_1, jgv_2, jgv_3, jrv_s, jput_0, jput_1, jput_2, jput_3, jpop_0, jpop_1, jcl_s, jc1, jc2, jvi, Nat.reduceAdd, jol_i, jol_l, jol_n, List.map_cons, List.map_nil, List.sum_cons, List.sum_nil, jcI, jcL, jcR, Nat.zero_le, true_and, and_true, and_self, Nat.reduceLeDiff, gI_sI, gI_sL, gI_sR, gL_sI, gL_sL, gL_sR, gR_sI, gR_sL, gR_sR, gS_sI, gS_sL, gS_sR, gN_sI, gN_sL, gN_sR, true_or, or_true, false_or, or_false, Nat.reduceEqDiff, false_and, and_false, if_false, if_true, reduceIte, not_true_eq_false, not_false_eq_true, true_imp_iff, false_imp_iff, jr_133_4 hW, jr_133_5 hW, jr_133_6 hW, jr_133_7 hW, jr_133_31 hW, jr_133_32 hW, jr_133_33 hW, jr_133_34 hW, jr_133_35 hW, jr_133_36 hW, jr_133_37 hW, jr_133_38 hW, jr_133_39 hW, jr_133_40 hW, jr_133_41 hW, jr_133_42 hW, jr_133_44 hW, jr_133_45 hW, jr_133_46 hW, jr_133_47 hW, jr_133_48 hW, jr_133_49 hW, jr_133_50 hW, jr_133_51 hW, jr_133_55 hW, jr_133_56 hW, jr_133_57 hW, jr_133_58 hW, jr_133_62 hW, jr_133_65 hW, jr_133_66 hW, jr_133_67 hW, jr_133_68 hW, jr_133_69 hW, jr_133_70 hW, jr_133_71 hW, jr_133_74 hW, jr_133_75 hW, hW.1, jS0_133, jS0_134, jS0_135, jS0_136, jS0_137, jS0_138, jS0_139, jS0_140, jS0_141, jS0_142, jS0_143, jS0_144, jS0_145, jS0_146, jS0_147, jS0_148, jS0_149, jS0_150, jS0_151, jS0_152, jS0_153, jS0_154, jS0_155, jS0_156, jS0_157, jS0_158, jS0_159, jS0_160, jS0_161, jS0_162, jS0_163, jS0_164, jS0_165, jS0_166, jS0_167, jS0_168, jS0_169, jS0_170, jS0_171, c1, c2, g3, g30] | refine br_c (fun _ => ?_) (fun _ => ?_) | refine And.intro ?_ ?_)
    exact h5 p hp rfl c2
  obtain ⟨j, hj, rfl⟩ : ∃ j, j < 6 ∧ x2 = nI j := by
    rcases pk_ix x2 (n := 6) (by omega) with h3 | h3 | h3
    · exact absurd h3 (by grind)
    · rw [← li_6] at h3; exact absurd h3 (by grind)
    · exact h3
  have hp8 := hK.1.1
  have g1 := jcl_n (k := p) (by omega)
  have g2 : vp_in (nI p) 8 := vp_in_nI (by omega) (by omega)
  have q := hM.2.1 p hp
  have hd4 : tD T p ≤ 4 := (hK.2.1 p hp).2.2.2
  by_cases c8 : 2 ≤ j ∧ tD T p ≤ j - 2
  · have n2 : nI j - 2 = nI (j - 2) := pk_sub (b := 2) (by omega)
    have n1 : (nI j ≤ 1) = False := jN (nI_ge (a := 1) (b := j) (by omega) (by omega))
    have n9 : (nI (j - 2) < nI (tD T p)) = False := jN (fun z => by have := (nI_ltI (by omega) (by omega)).mp z; omega)
    repeat' (first | refine b237_24 ?_ | refine b237_42 ?_ | refine b237_81 ?_ | refine b237_95 ?_ | refine b237_103 ?_ | refine sM_isPlace hW2 hK hM2.1.1 ?_ | refine sM_isIn32 (y := 0) (z := 5) (by decide) (by decide) ?_ | refine sM_refuse hW2 ?_ | simp only [jx_blk, jx_op, j1i_c, j2i_c, j1l_c, j2l_c, jil_c, j1r_c, jri_c, jrii_c, jril_c, jrl_c, jrr_c, j2i'_c, jdup_i, jdup_r, jdup2_c, jdup2_l, jpo_c, jli, jll, jlr, jat_0, jat_s, jst, jst2, jkill_i, jkill_r, jkill_l, jkill_n, jnone, jgv_0, jgv_1, jgv_2, jgv_3, jrv_s, jput_0, jput_1, jput_2, jput_3, jpop_0, jpop_1, jcl_s, jc1, jc2, jvi, Nat.reduceAdd, jol_i, jol_l, jol_n, List.map_cons, List.map_nil, List.sum_cons, List.sum_nil, jcI, jcL, jcR, Nat.zero_le, true_and, and_true, and_self, Nat.reduceLeDiff, gI_sI, gI_sL, gI_sR, gL_sI, gL_sL, gL_sR, gR_sI, gR_sL, gR_sR, gS_sI, gS_sL, gS_sR, gN_sI, gN_sL, gN_sR, true_or, or_true, false_or, or_false, Nat.reduceEqDiff, false_and, and_false, if_false, if_true, reduceIte, not_true_eq_false, not_false_eq_true, true_imp_iff, false_imp_iff, jr_133_4 hW, jr_133_5 hW, jr_133_6 hW, jr_133_7 hW, jr_133_31 hW, jr_133_32 hW, jr_133_33 hW, jr_133_34 hW, jr_133_35 hW, jr_133_36 hW, jr_133_37 hW, jr_133_38 hW, jr_133_39 hW, jr_133_40 hW, jr_133_41 hW, jr_133_42 hW, jr_133_44 hW, jr_133_45 hW, jr_133_46 hW, jr_133_47 hW, jr_133_48 hW, jr_133_49 hW, jr_133_50 hW, jr_133_51 hW, jr_133_55 hW, jr_133_56 hW, jr_133_57 hW, jr_133_58 hW, jr_133_62 hW, jr_133_65 hW, jr_133_66 hW, jr_133_67 hW, jr_133_68 hW, jr_133_69 hW, jr_133_70 hW, jr_133_71 hW, jr_133_74 hW, jr_133_75 hW, hW.1, jS0_133, jS0_134, jS0_135, jS0_136, jS0_137, jS0_138, jS0_139, jS0_140, jS0_141, jS0_142, jS0_143, jS0_144, jS0_145, jS0_146, jS0_147, jS0_148, jS0_149, jS0_150, jS0_151, jS0_152, jS0_153, jS0_154, jS0_155, jS0_156, jS0_157, jS0_158, jS0_159, jS0_160, jS0_161, jS0_162, jS0_163, jS0_164, jS0_165, jS0_166, jS0_167, jS0_168, jS0_169, jS0_170, jS0_171, c1, c2, g3, g30, n1, n2, n9, g1, g2, q.2.2.2] | refine br_c (fun _ => ?_) (fun _ => ?_) | refine And.intro ?_ ?_)
    exact h8 p j hp rfl (by omega) rfl c8
  by_cases j0 : j = 0
  · subst j0
    have g6 : 3 * nI p = nI (3 * p) := by rw [li_3, pk_mul]
    have g7 := jcl_n (k := 3 * p) (by omega)
    have g8 : vp_in (nI (3 * p)) 24 := vp_in_nI (by omega) (by omega)
    repeat' (first | refine b237_24 ?_ | refine b237_42 ?_ | refine b237_66 ?_ | refine b237_81 ?_ | refine b237_95 ?_ | refine b237_103 ?_ | refine sM_isPlace hW2 hK hM2.1.1 ?_ | refine sM_isIn32 (y := 0) (z := 5) (by decide) (by decide) ?_ | simp only [jx_blk, jx_op, j1i_c, j2i_c, j1l_c, j2l_c, jil_c, j1r_c, jri_c, jrii_c, jril_c, jrl_c, jrr_c, j2i'_c, jdup_i, jdup_r, jdup2_c, jdup2_l, jpo_c, jli, jll, jlr, jat_0, jat_s, jst, jst2, jkill_i, jkill_r, jkill_l, jkill_n, jnone, jgv_0, jgv_1, jgv_2, jgv_3, jrv_s, jput_0, jput_1, jput_2, jput_3, jpop_0, jpop_1, jcl_s, jc1, jc2, jvi, Nat.reduceAdd, jol_i, jol_l, jol_n, List.map_cons, List.map_nil, List.sum_cons, List.sum_nil, jcI, jcL, jcR, Nat.zero_le, true_and, and_true, and_self, Nat.reduceLeDiff, gI_sI, gI_sL, gI_sR, gL_sI, gL_sL, gL_sR, gR_sI, gR_sL, gR_sR, gS_sI, gS_sL, gS_sR, gN_sI, gN_sL, gN_sR, true_or, or_true, false_or, or_false, Nat.reduceEqDiff, false_and, and_false, if_false, if_true, reduceIte, not_true_eq_false, not_false_eq_true, true_imp_iff, false_imp_iff, jr_133_4 hW, jr_133_5 hW, jr_133_6 hW, jr_133_7 hW, jr_133_31 hW, jr_133_32 hW, jr_133_33 hW, jr_133_34 hW, jr_133_35 hW, jr_133_36 hW, jr_133_37 hW, jr_133_38 hW, jr_133_39 hW, jr_133_40 hW, jr_133_41 hW, jr_133_42 hW, jr_133_44 hW, jr_133_45 hW, jr_133_46 hW, jr_133_47 hW, jr_133_48 hW, jr_133_49 hW, jr_133_50 hW, jr_133_51 hW, jr_133_55 hW, jr_133_56 hW, jr_133_57 hW, jr_133_58 hW, jr_133_62 hW, jr_133_65 hW, jr_133_66 hW, jr_133_67 hW, jr_133_68 hW, jr_133_69 hW, jr_133_70 hW, jr_133_71 hW, jr_133_74 hW, jr_133_75 hW, hW.1, jS0_133, jS0_134, jS0_135, jS0_136, jS0_137, jS0_138, jS0_139, jS0_140, jS0_141, jS0_142, jS0_143, jS0_144, jS0_145, jS0_146, jS0_147, jS0_148, jS0_149, jS0_150, jS0_151, jS0_152, jS0_153, jS0_154, jS0_155, jS0_156, jS0_157, jS0_158, jS0_159, jS0_160, jS0_161, jS0_162, jS0_163, jS0_164, jS0_165, jS0_166, jS0_167, jS0_168, jS0_169, jS0_170, jS0_171, c1, c2, g3, g30, g6, g7, g8, q.1, show (nI 0 ≤ 1) = True by decide, show (nI 0 = 0) = True by decide] | refine br_c (fun _ => ?_) (fun _ => ?_) | refine And.intro ?_ ?_)
    exact h p 0 hp rfl (by omega) rfl c8
  by_cases j1 : j = 1
  · subst j1
    repeat' (first | refine b237_24 ?_ | refine b237_42 ?_ | refine b237_66 ?_ | refine b237_81 ?_ | refine b237_95 ?_ | refine b237_103 ?_ | refine sM_isPlace hW2 hK hM2.1.1 ?_ | refine sM_isIn32 (y := 0) (z := 5) (by decide) (by decide) ?_ | simp only [jx_blk, jx_op, j1i_c, j2i_c, j1l_c, j2l_c, jil_c, j1r_c, jri_c, jrii_c, jril_c, jrl_c, jrr_c, j2i'_c, jdup_i, jdup_r, jdup2_c, jdup2_l, jpo_c, jli, jll, jlr, jat_0, jat_s, jst, jst2, jkill_i, jkill_r, jkill_l, jkill_n, jnone, jgv_0, jgv_1, jgv_2, jgv_3, jrv_s, jput_0, jput_1, jput_2, jput_3, jpop_0, jpop_1, jcl_s, jc1, jc2, jvi, Nat.reduceAdd, jol_i, jol_l, jol_n, List.map_cons, List.map_nil, List.sum_cons, List.sum_nil, jcI, jcL, jcR, Nat.zero_le, true_and, and_true, and_self, Nat.reduceLeDiff, gI_sI, gI_sL, gI_sR, gL_sI, gL_sL, gL_sR, gR_sI, gR_sL, gR_sR, gS_sI, gS_sL, gS_sR, gN_sI, gN_sL, gN_sR, true_or, or_true, false_or, or_false, Nat.reduceEqDiff, false_and, and_false, if_false, if_true, reduceIte, not_true_eq_false, not_false_eq_true, true_imp_iff, false_imp_iff, jr_133_4 hW, jr_133_5 hW, jr_133_6 hW, jr_133_7 hW, jr_133_31 hW, jr_133_32 hW, jr_133_33 hW, jr_133_34 hW, jr_133_35 hW, jr_133_36 hW, jr_133_37 hW, jr_133_38 hW, jr_133_39 hW, jr_133_40 hW, jr_133_41 hW, jr_133_42 hW, jr_133_44 hW, jr_133_45 hW, jr_133_46 hW, jr_133_47 hW, jr_133_48 hW, jr_133_49 hW, jr_133_50 hW, jr_133_51 hW, jr_133_55 hW, jr_133_56 hW, jr_133_57 hW, jr_133_58 hW, jr_133_62 hW, jr_133_65 hW, jr_133_66 hW, jr_133_67 hW, jr_133_68 hW, jr_133_69 hW, jr_133_70 hW, jr_133_71 hW, jr_133_74 hW, jr_133_75 hW, hW.1, jS0_133, jS0_134, jS0_135, jS0_136, jS0_137, jS0_138, jS0_139, jS0_140, jS0_141, jS0_142, jS0_143, jS0_144, jS0_145, jS0_146, jS0_147, jS0_148, jS0_149, jS0_150, jS0_151, jS0_152, jS0_153, jS0_154, jS0_155, jS0_156, jS0_157, jS0_158, jS0_159, jS0_160, jS0_161, jS0_162, jS0_163, jS0_164, jS0_165, jS0_166, jS0_167, jS0_168, jS0_169, jS0_170, jS0_171, c1, c2, g3, g30, g1, g2, q.2.2.2, show (nI 1 ≤ 1) = True by decide, show (nI 1 = 0) = False by decide, show (nI 1 = 1) = True by decide] | refine br_c (fun _ => ?_) (fun _ => ?_) | refine And.intro ?_ ?_)
    exact h p 1 hp rfl (by omega) rfl c8
  have n2 : nI j - 2 = nI (j - 2) := pk_sub (b := 2) (by omega)
  have n1 : (nI j ≤ 1) = False := jN (nI_ge (a := 1) (b := j) (by omega) (by omega))
  have n9 : (nI (j - 2) < nI (tD T p)) = True := jP (nI_lt (by omega) (by omega))
  have m1 : (nI j = 1) = False := jN (fun q => by have := (nI_eq (a := j) (b := 1) (by omega) (by omega)).mp q; omega)
  have m0 : (nI j = 0) = False := jN (fun q => by have := (nI_eq (a := j) (b := 0) (by omega) (by omega)).mp q; omega)
  have e : tPl T p j = tLe T p (j - 2) := by unfold tPl; rw [if_neg j0, if_neg j1]
  repeat' (first | refine b237_24 ?_ | refine b237_42 ?_ | refine b237_66 ?_ | refine b237_81 ?_ | refine b237_95 ?_ | refine b237_103 ?_ | refine sM_isPlace hW2 hK hM2.1.1 ?_ | refine sM_isIn32 (y := 0) (z := 5) (by decide) (by decide) ?_ | refine sM_leads hW2 hK hM2 hp (by omega) ?_ | simp only [jx_blk, jx_op, j1i_c, j2i_c, j1l_c, j2l_c, jil_c, j1r_c, jri_c, jrii_c, jril_c, jrl_c, jrr_c, j2i'_c, jdup_i, jdup_r, jdup2_c, jdup2_l, jpo_c, jli, jll, jlr, jat_0, jat_s, jst, jst2, jkill_i, jkill_r, jkill_l, jkill_n, jnone, jgv_0, jgv_1, jgv_2, jgv_3, jrv_s, jput_0, jput_1, jput_2, jput_3, jpop_0, jpop_1, jcl_s, jc1, jc2, jvi, Nat.reduceAdd, jol_i, jol_l, jol_n, List.map_cons, List.map_nil, List.sum_cons, List.sum_nil, jcI, jcL, jcR, Nat.zero_le, true_and, and_true, and_self, Nat.reduceLeDiff, gI_sI, gI_sL, gI_sR, gL_sI, gL_sL, gL_sR, gR_sI, gR_sL, gR_sR, gS_sI, gS_sL, gS_sR, gN_sI, gN_sL, gN_sR, true_or, or_true, false_or, or_false, Nat.reduceEqDiff, false_and, and_false, if_false, if_true, reduceIte, not_true_eq_false, not_false_eq_true, true_imp_iff, false_imp_iff, jr_133_4 hW, jr_133_5 hW, jr_133_6 hW, jr_133_7 hW, jr_133_31 hW, jr_133_32 hW, jr_133_33 hW, jr_133_34 hW, jr_133_35 hW, jr_133_36 hW, jr_133_37 hW, jr_133_38 hW, jr_133_39 hW, jr_133_40 hW, jr_133_41 hW, jr_133_42 hW, jr_133_44 hW, jr_133_45 hW, jr_133_46 hW, jr_133_47 hW, jr_133_48 hW, jr_133_49 hW, jr_133_50 hW, jr_133_51 hW, jr_133_55 hW, jr_133_56 hW, jr_133_57 hW, jr_133_58 hW, jr_133_62 hW, jr_133_65 hW, jr_133_66 hW, jr_133_67 hW, jr_133_68 hW, jr_133_69 hW, jr_133_70 hW, jr_133_71 hW, jr_133_74 hW, jr_133_75 hW, hW.1, jS0_133, jS0_134, jS0_135, jS0_136, jS0_137, jS0_138, jS0_139, jS0_140, jS0_141, jS0_142, jS0_143, jS0_144, jS0_145, jS0_146, jS0_147, jS0_148, jS0_149, jS0_150, jS0_151, jS0_152, jS0_153, jS0_154, jS0_155, jS0_156, jS0_157, jS0_158, jS0_159, jS0_160, jS0_161, jS0_162, jS0_163, jS0_164, jS0_165, jS0_166, jS0_167, jS0_168, jS0_169, jS0_170, jS0_171, c1, c2, g3, g30, n1, n2, n9, m0, m1, g1, g2, q.2.2.2] | refine br_c (fun _ => ?_) (fun _ => ?_) | refine And.intro ?_ ?_)
  rw [← e]
  exact h p j hp rfl (by omega) rfl c8
theorem R_place (x1 x2 : Int32) (h : jInv L μ) : jRel 999 150 237 [.int x1, .int x2] jInv L false μ := by
  obtain ⟨t, hW, hS, hT, hO⟩ := h
  obtain ⟨T, hK, hX, hM⟩ := hO.2.2.1
  have hM1 : ∀ w, jTM T (sI μ 1 0 w) := fun w => jTM_of (fun a k hx => by rw [gI_sI, if_neg (by omega)]) hM
  have hWw : ∀ w, jWd L t (sI μ 1 0 w) := fun w => hW
  refine sX_place hW hK hX (fun c => ?_) (fun p hp e c => ?_) (fun p j hp e hj e2 c => ?_) (fun p j hp e hj e2 c => ?_)
  · refine ⟨⟨_, rfl⟩, jg0 (by decide) 0, fun _ => rfl, sM_place (hWw _) hK (hM1 _) (fun _ => ⟨rfl, jref hW hS hT hO⟩) ?_ ?_ ?_⟩
    · intro p hp e; exact absurd (e ▸ jpl_n hK.1.1 hp) c
    · intro p j hp e; exact absurd (e ▸ jpl_n hK.1.1 hp) c
    · intro p j hp e; exact absurd (e ▸ jpl_n hK.1.1 hp) c
  · subst e
    refine ⟨⟨_, rfl⟩, jg0 (by decide) 0, fun _ => rfl, sM_place (hWw _) hK (hM1 _) (fun z => absurd (jpl_n hK.1.1 hp) z) (fun _ _ _ _ => ⟨rfl, jref hW hS hT hO⟩) ?_ ?_⟩
    · intro p2 j _ _ hj e3
      exact absurd (show 0 ≤ x2 ∧ x2 ≤ 5 by rw [e3]; exact ⟨nI_pos' (by omega), nI_le (b := 5) hj (by omega)⟩) c
    · intro p2 j _ _ hj e3
      exact absurd (show 0 ≤ x2 ∧ x2 ≤ 5 by rw [e3]; exact ⟨nI_pos' (by omega), nI_le (b := 5) hj (by omega)⟩) c
  · subst e
    subst e2
    have h8 := hK.1.1
    refine ⟨⟨_, rfl⟩, jg0 (by decide) 0, fun _ => rfl, sM_place (hWw _) hK (hM1 _) (fun z => absurd (jpl_n hK.1.1 hp) z) (fun _ _ _ z => absurd ⟨nI_pos' (by omega), nI_le (b := 5) hj (by omega)⟩ z) (fun _ _ _ _ _ _ _ => ⟨rfl, jref hW hS hT hO⟩) ?_⟩
    intro p2 j2 hp2 e3 hj2 e4 c2
    have a := (nI_eq (by omega) (by omega)).mp e3
    have b := (nI_eq (by omega) (by omega)).mp e4
    subst a
    subst b
    exact absurd c c2
  · subst e
    subst e2
    have h8 := hK.1.1
    refine ⟨⟨_, rfl⟩, jg0 (by decide) 0, fun _ => rfl, sM_place (hWw _) hK (hM1 _) (fun z => absurd (jpl_n hK.1.1 hp) z) (fun _ _ _ z => absurd ⟨nI_pos' (by omega), nI_le (b := 5) hj (by omega)⟩ z) ?_ ?_⟩
    · intro p2 j2 hp2 e3 hj2 e4 c2
      have a := (nI_eq (by omega) (by omega)).mp e3
      have b := (nI_eq (by omega) (by omega)).mp e4
      subst a
      subst b
      exact absurd c2 c
    · intro p2 j2 hp2 e3 hj2 e4 c2
      have a := (nI_eq (by omega) (by omega)).mp e3
      have b := (nI_eq (by omega) (by omega)).mp e4
      subst a
      subst b
      exact ⟨rfl, jref0 hW hS hT hO⟩
end JTC
