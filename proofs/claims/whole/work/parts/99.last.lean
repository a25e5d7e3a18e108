set_option maxHeartbeats 4000000 in
theorem tst_isPlace {d t : Nat} {p : Int32} {μ : jMem} {Q : jQ} (ht : (gS μ t).1 = 6) (h : Q (some (.int 5)) μ) : jC d 79 [.ref t, .int p] μ Q := by
  refine e79 (b79_0 ?_)
  simp only [jx_blk, jx_op, j1i, j2i, j1l, j2l, jil, j1r, jri, jrii, jril, jrl, jrr, j2i', jdup, jdup2, jpo, jli, jll, jlr, jat, jst, jst2, jkill, jnone, jgv, jput, jpop, jc1, jc2, jvi, jcl, Nat.reduceAdd, Option.toList, List.cons_append, List.nil_append, List.map_cons, List.map_nil, List.sum_cons, List.sum_nil, Value.category, Nat.zero_le, true_and, and_true, and_self, Nat.reduceLeDiff, gI_sI, gI_sL, gI_sR, gL_sI, gL_sL, gL_sR, gR_sI, gR_sL, gR_sR, gS_sI, gS_sL, gS_sR, gN_sI, gN_sL, gN_sR, true_or, or_true, false_or, or_false, ht]
  trace_state
  sorry
set_option maxHeartbeats 4000000 in
theorem tst_like {d t : Nat} {p q : Int32} {μ : jMem} {Q : jQ} (ht : (gS μ t).1 = 6) (h : Q (some (.int 5)) μ) : jC (d + 1) 84 [.ref t, .int p, .int q] μ Q := by
  refine e84 (b84_0 ?_)
  simp only [jx_blk, jx_op, j1i, j2i, j1l, j2l, jil, j1r, jri, jrii, jril, jrl, jrr, j2i', jdup, jdup2, jpo, jli, jll, jlr, jat, jst, jst2, jkill, jnone, jgv, jput, jpop, jc1, jc2, jvi, jcl, Nat.reduceAdd, Option.toList, List.cons_append, List.nil_append, List.map_cons, List.map_nil, List.sum_cons, List.sum_nil, Value.category, Nat.zero_le, true_and, and_true, and_self, Nat.reduceLeDiff, gI_sI, gI_sL, gI_sR, gL_sI, gL_sL, gL_sR, gR_sI, gR_sL, gR_sR, gS_sI, gS_sL, gS_sR, gN_sI, gN_sL, gN_sR, true_or, or_true, false_or, or_false, ht]
  trace_state
  sorry
theorem i_vc : Claimed_1_1 ∧ Claimed_1_2 := sorry
