/-! pour: ranges -/
section JTF
variable {d L t : Nat} {μ : jMem} {Q : jQ}
/-- the numbers x to x + n lie in a length l -/
def jrg (l x n : Int32) : Prop := 0 ≤ x ∧ ¬ (l.toInt64 < x.toInt64 + n.toInt64)
theorem sp_hasRange {i : Nat} {x y : Int32} (hW : jWd L t μ) (hi : i < 4) (hl : ¬ gI μ 9 i < 0) (hy : ¬ y < 0) (h0 : ¬ jrg (gI μ 9 i) x y → Q (some (.int 0)) μ) (h1 : jrg (gI μ 9 i) x y → Q (some (.int 1)) μ) : jC (d + 3) 109 [.ref 2, .int (nI i), .int x, .int y] μ Q := by
  refine e109 (b109_0 ?_)
  have f1 := jcl_n (k := i) (by omega)
  have f2 : vp_in (nI i) 4 := vp_in_nI (by omega) (by omega)
  have g0 : ((1 : Int32) = 0) = False := by decide
  by_cases c : x < 0
  · have k := h0 (fun q => by have := q.1; clear h0 h1; grind)
    repeat' (first | refine b109_27 ?_ | refine b109_28 ?_ | refine e106 (b106_0 ?_) | refine b106_17 ?_ | refine b106_18 ?_ | refine sp_isThere hW hi ?_ | refine sp_isTray_n hi ?_ | simp only [jx_blk, jx_op, j1i_c, j2i_c, j1l_c, j2l_c, jil_c, j1r_c, jri_c, jrii_c, jril_c, jrl_c, jrr_c, j2i'_c, jdup_i, jdup_r, jdup2_c, jdup2_l, jpo_c, jli, jll, jlr, jat_0, jat_s, jst, jst2, jkill_i, jkill_r, jkill_l, jkill_n, jnone, jgv_0, jgv_1, jgv_2, jgv_3, jrv_s, jput_0, jput_1, jput_2, jput_3, jpop_0, jpop_1, jcl_s, jc1, jc2, jvi, Nat.reduceAdd, jol_i, jol_l, jol_n, List.map_cons, List.map_nil, List.sum_cons, List.sum_nil, jcI, jcL, jcR, Nat.zero_le, true_and, and_true, and_self, Nat.reduceLeDiff, gI_sI, gI_sL, gI_sR, gL_sI, gL_sL, gL_sR, gR_sI, gR_sL, gR_sR, gS_sI, gS_sL, gS_sR, gN_sI, gN_sL, gN_sR, true_or, or_true, false_or, or_false, Nat.reduceEqDiff, false_and, and_false, if_false, if_true, reduceIte, not_true_eq_false, not_false_eq_true, true_imp_iff, false_imp_iff, jr_2_0 hW, jr_2_1 hW, jr_2_2 hW, hW.1, jS0_2, jS0_3, jS0_8, jS0_9, f1, f2, g0, hl, hy, c, jlc_gt] | refine br_c (fun _ => ?_) (fun _ => ?_) | refine And.intro ?_ ?_)
    exact k
  by_cases c2 : (gI μ 9 i).toInt64 < x.toInt64 + y.toInt64
  · have k := h0 (fun q => q.2 c2)
    repeat' (first | refine b109_27 ?_ | refine b109_28 ?_ | refine e106 (b106_0 ?_) | refine b106_17 ?_ | refine b106_18 ?_ | refine sp_isThere hW hi ?_ | refine sp_isTray_n hi ?_ | simp only [jx_blk, jx_op, j1i_c, j2i_c, j1l_c, j2l_c, jil_c, j1r_c, jri_c, jrii_c, jril_c, jrl_c, jrr_c, j2i'_c, jdup_i, jdup_r, jdup2_c, jdup2_l, jpo_c, jli, jll, jlr, jat_0, jat_s, jst, jst2, jkill_i, jkill_r, jkill_l, jkill_n, jnone, jgv_0, jgv_1, jgv_2, jgv_3, jrv_s, jput_0, jput_1, jput_2, jput_3, jpop_0, jpop_1, jcl_s, jc1, jc2, jvi, Nat.reduceAdd, jol_i, jol_l, jol_n, List.map_cons, List.map_nil, List.sum_cons, List.sum_nil, jcI, jcL, jcR, Nat.zero_le, true_and, and_true, and_self, Nat.reduceLeDiff, gI_sI, gI_sL, gI_sR, gL_sI, gL_sL, gL_sR, gR_sI, gR_sL, gR_sR, gS_sI, gS_sL, gS_sR, gN_sI, gN_sL, gN_sR, true_or, or_true, false_or, or_false, Nat.reduceEqDiff, false_and, and_false, if_false, if_true, reduceIte, not_true_eq_false, not_false_eq_true, true_imp_iff, false_imp_iff, jr_2_0 hW, jr_2_1 hW, jr_2_2 hW, hW.1, jS0_2, jS0_3, jS0_8, jS0_9, f1, f2, g0, hl, hy, c, c2, jlc_gt] | refine br_c (fun _ => ?_) (fun _ => ?_) | refine And.intro ?_ ?_)
    exact k
  · have k := h1 ⟨by clear h0 h1; grind, c2⟩
    repeat' (first | refine b109_27 ?_ | refine b109_28 ?_ | refine e106 (b106_0 ?_) | refine b106_17 ?_ | refine b106_18 ?_ | refine sp_isThere hW hi ?_ | refine sp_isTray_n hi ?_ | simp only [jx_blk, jx_op, j1i_c, j2i_c, j1l_c, j2l_c, jil_c, j1r_c, jri_c, jrii_c, jril_c, jrl_c, jrr_c, j2i'_c, jdup_i, jdup_r, jdup2_c, jdup2_l, jpo_c, jli, jll, jlr, jat_0, jat_s, jst, jst2, jkill_i, jkill_r, jkill_l, jkill_n, jnone, jgv_0, jgv_1, jgv_2, jgv_3, jrv_s, jput_0, jput_1, jput_2, jput_3, jpop_0, jpop_1, jcl_s, jc1, jc2, jvi, Nat.reduceAdd, jol_i, jol_l, jol_n, List.map_cons, List.map_nil, List.sum_cons, List.sum_nil, jcI, jcL, jcR, Nat.zero_le, true_and, and_true, and_self, Nat.reduceLeDiff, gI_sI, gI_sL, gI_sR, gL_sI, gL_sL, gL_sR, gR_sI, gR_sL, gR_sR, gS_sI, gS_sL, gS_sR, gN_sI, gN_sL, gN_sR, true_or, or_true, false_or, or_false, Nat.reduceEqDiff, false_and, and_false, if_false, if_true, reduceIte, not_true_eq_false, not_false_eq_true, true_imp_iff, false_imp_iff, jr_2_0 hW, jr_2_1 hW, jr_2_2 hW, hW.1, jS0_2, jS0_3, jS0_8, jS0_9, f1, f2, g0, hl, hy, c, c2, jlc_gt, jlc_le] | refine br_c (fun _ => ?_) (fun _ => ?_) | refine And.intro ?_ ?_)
    first | exact k | (have e : x.toInt64 + y.toInt64 ≤ (gI μ 9 i).toInt64 := by (clear h0 h1 k; grind))
theorem jrg_n {n1 : Nat} {x n : Int32} (hn1 : n1 ≤ 64) (hn : ¬ n < 0) (h : jrg (nI n1) x n) : ∃ a m, x = nI a ∧ n = nI m ∧ a + m ≤ n1 := by
  have hx := h.1
  have h2 := h.2
  have a1 : 0 ≤ x.toInt := by have := Int32.le_iff_toInt_le.mp hx; simpa using this
  have a2 : 0 ≤ n.toInt := by
    have h0 : (0 : Int32) ≤ n := by clear h h2 hx; grind
    have := Int32.le_iff_toInt_le.mp h0; simpa using this
  have b1 := Int32.toInt_lt x
  have b2 := Int32.toInt_lt n
  have e1 : x = nI x.toInt.toNat := by
    apply Int32.toInt_inj.mp
    rw [show nI x.toInt.toNat = Int32.ofNat x.toInt.toNat from rfl, Int32.toInt_ofNat_of_lt (by omega)]
    omega
  have e2 : n = nI n.toInt.toNat := by
    apply Int32.toInt_inj.mp
    rw [show nI n.toInt.toNat = Int32.ofNat n.toInt.toNat from rfl, Int32.toInt_ofNat_of_lt (by omega)]
    omega
  refine ⟨x.toInt.toNat, n.toInt.toNat, e1, e2, ?_⟩
  rw [Int64.lt_iff_toInt_lt, Int64.toInt_add, Int32.toInt_toInt64, Int32.toInt_toInt64, Int32.toInt_toInt64, Int.bmod_eq_of_le (by omega) (by omega), show nI n1 = Int32.ofNat n1 from rfl, Int32.toInt_ofNat_of_lt (by omega)] at h2
  omega
theorem sX_pour94 {i1 i2 : Nat} {x2 x4 x5 : Int32} (hW : jWd L t μ) (h1 : i1 < 4) (h2 : i2 < 4) (c1 : ¬ gI μ 9 i1 < 0) (c2 : ¬ gI μ 9 i2 < 0) (c5 : ¬ x5 < 0) (h4 : ¬ (jrg (gI μ 9 i1) x2 x5 ∧ jrg (gI μ 9 i2) x4 x5) → Q (some (.int 0)) (sI μ 1 0 4)) (h : jrg (gI μ 9 i1) x2 x5 → jrg (gI μ 9 i2) x4 x5 → jR (d + 6) 145 129 [some (.ref 1), some (.int (nI i1)), some (.int x2), some (.int (nI i2)), some (.int x4), some (.int x5)] [] (0, 0) μ Q) : jR (d + 6) 145 94 [some (.ref 1), some (.int (nI i1)), some (.int x2), some (.int (nI i2)), some (.int x4), some (.int x5)] [] (0, 0) μ Q := by
  have g0 : ((1 : Int32) = 0) = False := by decide
  have g00 : ((0 : Int32) = 0) = True := by decide
  refine b145_94 ?_
  by_cases r1 : jrg (gI μ 9 i1) x2 x5
  case neg =>
    repeat' (first | refine b145_22 ?_ | refine b145_28 ?_ | refine b145_50 ?_ | refine b145_56 ?_ | refine b145_82 ?_ | refine b145_94 ?_ | refine b145_123 ?_ | refine sp_hasRange hW h1 c1 c5 (fun _ => ?_) (fun q => absurd q r1) | refine sX_refuse hW ?_ | simp only [jx_blk, jx_op, j1i_c, j2i_c, j1l_c, j2l_c, jil_c, j1r_c, jri_c, jrii_c, jril_c, jrl_c, jrr_c, j2i'_c, jdup_i, jdup_r, jdup2_c, jdup2_l, jpo_c, jli, jll, jlr, jat_0, jat_s, jst, jst2, jkill_i, jkill_r, jkill_l, jkill_n, jnone, jgv_0, jgv_1, jgv_2, jgv_3, jrv_s, jput_0, jput_1, jput_2, jput_3, jpop_0, jpop_1, jcl_s, jc1, jc2, jvi, Nat.reduceAdd, jol_i, jol_l, jol_n, List.map_cons, List.map_nil, List.sum_cons, List.sum_nil, jcI, jcL, jcR, Nat.zero_le, true_and, and_true, and_self, Nat.reduceLeDiff, gI_sI, gI_sL, gI_sR, gL_sI, gL_sL, gL_sR, gR_sI, gR_sL, gR_sR, gS_sI, gS_sL, gS_sR, gN_sI, gN_sL, gN_sR, true_or, or_true, false_or, or_false, Nat.reduceEqDiff, false_and, and_false, if_false, if_true, reduceIte, not_true_eq_false, not_false_eq_true, true_imp_iff, false_imp_iff, jr_1_3 hW, jr_1_4 hW, jr_1_7 hW, jr_1_8 hW, jr_1_9 hW, jr_1_10 hW, jr_1_11 hW, jr_1_12 hW, jr_1_13 hW, hW.1, jS0_1, jS0_2, jS0_10, jS0_34, jS0_38, jS0_43, jS0_102, jS0_112, jS0_122, jS0_128, g0, g00] | refine br_c (fun _ => ?_) (fun _ => ?_) | refine And.intro ?_ ?_)
    exact h4 (fun q => r1 q.1)
  by_cases r2 : jrg (gI μ 9 i2) x4 x5
  case neg =>
    repeat' (first | refine b145_22 ?_ | refine b145_28 ?_ | refine b145_50 ?_ | refine b145_56 ?_ | refine b145_82 ?_ | refine b145_94 ?_ | refine b145_123 ?_ | refine sp_hasRange hW h1 c1 c5 (fun q => absurd r1 q) (fun _ => ?_) | refine sp_hasRange hW h2 c2 c5 (fun _ => ?_) (fun q => absurd q r2) | refine sX_refuse hW ?_ | simp only [jx_blk, jx_op, j1i_c, j2i_c, j1l_c, j2l_c, jil_c, j1r_c, jri_c, jrii_c, jril_c, jrl_c, jrr_c, j2i'_c, jdup_i, jdup_r, jdup2_c, jdup2_l, jpo_c, jli, jll, jlr, jat_0, jat_s, jst, jst2, jkill_i, jkill_r, jkill_l, jkill_n, jnone, jgv_0, jgv_1, jgv_2, jgv_3, jrv_s, jput_0, jput_1, jput_2, jput_3, jpop_0, jpop_1, jcl_s, jc1, jc2, jvi, Nat.reduceAdd, jol_i, jol_l, jol_n, List.map_cons, List.map_nil, List.sum_cons, List.sum_nil, jcI, jcL, jcR, Nat.zero_le, true_and, and_true, and_self, Nat.reduceLeDiff, gI_sI, gI_sL, gI_sR, gL_sI, gL_sL, gL_sR, gR_sI, gR_sL, gR_sR, gS_sI, gS_sL, gS_sR, gN_sI, gN_sL, gN_sR, true_or, or_true, false_or, or_false, Nat.reduceEqDiff, false_and, and_false, if_false, if_true, reduceIte, not_true_eq_false, not_false_eq_true, true_imp_iff, false_imp_iff, jr_1_3 hW, jr_1_4 hW, jr_1_7 hW, jr_1_8 hW, jr_1_9 hW, jr_1_10 hW, jr_1_11 hW, jr_1_12 hW, jr_1_13 hW, hW.1, jS0_1, jS0_2, jS0_10, jS0_34, jS0_38, jS0_43, jS0_102, jS0_112, jS0_122, jS0_128, g0, g00] | refine br_c (fun _ => ?_) (fun _ => ?_) | refine And.intro ?_ ?_)
    exact h4 (fun q => r2 q.2)
  have k := h r1 r2
  repeat' (first | refine b145_22 ?_ | refine b145_28 ?_ | refine b145_50 ?_ | refine b145_56 ?_ | refine b145_82 ?_ | refine b145_94 ?_ | refine b145_123 ?_ | refine sp_hasRange hW h1 c1 c5 (fun q => absurd r1 q) (fun _ => ?_) | refine sp_hasRange hW h2 c2 c5 (fun q => absurd r2 q) (fun _ => ?_) | simp only [jx_blk, jx_op, j1i_c, j2i_c, j1l_c, j2l_c, jil_c, j1r_c, jri_c, jrii_c, jril_c, jrl_c, jrr_c, j2i'_c, jdup_i, jdup_r, jdup2_c, jdup2_l, jpo_c, jli, jll, jlr, jat_0, jat_s, jst, jst2, jkill_i, jkill_r, jkill_l, jkill_n, jnone, jgv_0, jgv_1, jgv_2, jgv_3, jrv_s, jput_0, jput_1, jput_2, jput_3, jpop_0, jpop_1, jcl_s, jc1, jc2, jvi, Nat.reduceAdd, jol_i, jol_l, jol_n, List.map_cons, List.map_nil, List.sum_cons, List.sum_nil, jcI, jcL, jcR, Nat.zero_le, true_and, and_true, and_self, Nat.reduceLeDiff, gI_sI, gI_sL, gI_sR, gL_sI, gL_sL, gL_sR, gR_sI, gR_sL, gR_sR, gS_sI, gS_sL, gS_sR, gN_sI, gN_sL, gN_sR, true_or, or_true, false_or, or_false, Nat.reduceEqDiff, false_and, and_false, if_false, if_true, reduceIte, not_true_eq_false, not_false_eq_true, true_imp_iff, false_imp_iff, jr_1_3 hW, jr_1_4 hW, jr_1_7 hW, jr_1_8 hW, jr_1_9 hW, jr_1_10 hW, jr_1_11 hW, jr_1_12 hW, jr_1_13 hW, hW.1, jS0_1, jS0_2, jS0_10, jS0_34, jS0_38, jS0_43, jS0_102, jS0_112, jS0_122, jS0_128, g0, g00] | refine br_c (fun _ => ?_) (fun _ => ?_) | refine And.intro ?_ ?_)
  exact k
end JTF
