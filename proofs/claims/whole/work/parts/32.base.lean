/-! small rows: comparisons of longs, the town's own cells -/
theorem jlc_lt (x y : Int64) : (lg_cmp x y < 0) = (x < y) := by
  apply propext
  unfold lg_cmp
  by_cases h1 : x > y
  · rw [if_pos h1]; exact ⟨fun h => absurd h (by decide), fun h => absurd h (by grind)⟩
  · rw [if_neg h1]
    by_cases h2 : x = y
    · rw [if_pos h2]; exact ⟨fun h => absurd h (by decide), fun h => absurd h (by grind)⟩
    · rw [if_neg h2]; exact ⟨fun _ => by grind, fun _ => by decide⟩
theorem jlc_gt (x y : Int64) : (0 < lg_cmp x y) = (y < x) := by
  apply propext
  unfold lg_cmp
  by_cases h1 : x > y
  · rw [if_pos h1]; exact ⟨fun h => by grind, fun h => by decide⟩
  · rw [if_neg h1]
    by_cases h2 : x = y
    · rw [if_pos h2]; exact ⟨fun h => absurd h (by decide), fun h => absurd h (by grind)⟩
    · rw [if_neg h2]; exact ⟨fun h => absurd h (by decide), fun h => absurd h (by grind)⟩
theorem jlc_eq (x y : Int64) : (lg_cmp x y = 0) = (x = y) := by
  apply propext
  unfold lg_cmp
  by_cases h1 : x > y
  · rw [if_pos h1]; exact ⟨fun h => absurd h (by decide), fun h => absurd h (by grind)⟩
  · rw [if_neg h1]
    by_cases h2 : x = y
    · rw [if_pos h2]; exact ⟨fun _ => h2, fun _ => rfl⟩
    · rw [if_neg h2]; exact ⟨fun h => absurd h (by decide), fun h => absurd h h2⟩
theorem jlc_le (x y : Int64) : (lg_cmp x y ≤ 0) = (x ≤ y) := by
  have h := jlc_gt x y
  apply propext
  constructor
  · intro h1
    have : ¬ y < x := by rw [← h]; grind
    grind
  · intro h1
    have : ¬ (0 < lg_cmp x y) := by rw [h]; grind
    grind
theorem jlc_ge (x y : Int64) : (0 ≤ lg_cmp x y) = (y ≤ x) := by
  have h := jlc_lt x y
  apply propext
  constructor
  · intro h1
    have : ¬ x < y := by rw [← h]; grind
    grind
  · intro h1
    have : ¬ (lg_cmp x y < 0) := by rw [h]; grind
    grind
theorem jtl_le (x y : Int32) : (x.toInt64 ≤ y.toInt64) = (x ≤ y) := by
  rw [Int64.le_iff_toInt_le, Int32.le_iff_toInt_le, Int32.toInt_toInt64, Int32.toInt_toInt64]
theorem jtl_lt (x y : Int32) : (x.toInt64 < y.toInt64) = (x < y) := by
  rw [Int64.lt_iff_toInt_lt, Int32.lt_iff_toInt_lt, Int32.toInt_toInt64, Int32.toInt_toInt64]
section JB1
variable {d L t : Nat} {μ : jMem} {Q : jQ}
theorem sM_isIn {x y z : Int64} (h : Q (some (.int (if y ≤ x ∧ x ≤ z then 1 else 0))) μ) : jC d 190 [.long x, .long y, .long z] μ Q := by
  refine e190 (b190_0 ?_)
  simp only [jx_blk, jx_op, j1i_c, j2i_c, j1l_c, j2l_c, jil_c, j1r_c, jri_c, jrii_c, jril_c, jrl_c, jrr_c, j2i'_c, jdup_i, jdup_r, jdup2_c, jdup2_l, jpo_c, jli, jll, jlr, jat_0, jat_s, jst, jst2, jkill_i, jkill_r, jkill_l, jkill_n, jnone, jgv_0, jgv_1, jgv_2, jgv_3, jrv_s, jput_0, jput_1, jput_2, jput_3, jpop_0, jpop_1, jcl_s, jc1, jc2, jvi, Nat.reduceAdd, jol_i, jol_l, jol_n, List.map_cons, List.map_nil, List.sum_cons, List.sum_nil, jcI, jcL, jcR, Nat.zero_le, true_and, and_true, and_self, Nat.reduceLeDiff, gI_sI, gI_sL, gI_sR, gL_sI, gL_sL, gL_sR, gR_sI, gR_sL, gR_sR, gS_sI, gS_sL, gS_sR, gN_sI, gN_sL, gN_sR, true_or, or_true, false_or, or_false, Nat.reduceEqDiff, false_and, and_false, if_false, if_true, reduceIte, not_true_eq_false, not_false_eq_true, true_imp_iff, false_imp_iff, jlc_lt, jlc_gt]
  repeat' (first | refine b190_17 ?_ | refine b190_18 ?_ | simp only [jx_blk, jx_op, j1i_c, j2i_c, j1l_c, j2l_c, jil_c, j1r_c, jri_c, jrii_c, jril_c, jrl_c, jrr_c, j2i'_c, jdup_i, jdup_r, jdup2_c, jdup2_l, jpo_c, jli, jll, jlr, jat_0, jat_s, jst, jst2, jkill_i, jkill_r, jkill_l, jkill_n, jnone, jgv_0, jgv_1, jgv_2, jgv_3, jrv_s, jput_0, jput_1, jput_2, jput_3, jpop_0, jpop_1, jcl_s, jc1, jc2, jvi, Nat.reduceAdd, jol_i, jol_l, jol_n, List.map_cons, List.map_nil, List.sum_cons, List.sum_nil, jcI, jcL, jcR, Nat.zero_le, true_and, and_true, and_self, Nat.reduceLeDiff, gI_sI, gI_sL, gI_sR, gL_sI, gL_sL, gL_sR, gR_sI, gR_sL, gR_sR, gS_sI, gS_sL, gS_sR, gN_sI, gN_sL, gN_sR, true_or, or_true, false_or, or_false, Nat.reduceEqDiff, false_and, and_false, if_false, if_true, reduceIte, not_true_eq_false, not_false_eq_true, true_imp_iff, false_imp_iff, jlc_lt, jlc_gt] | refine br_c (fun _ => ?_) (fun _ => ?_) | refine And.intro ?_ ?_)
  all_goals (first | exact h | (rw [if_pos (by grind)] at h; exact h) | (rw [if_neg (by grind)] at h; exact h))
theorem sM_isIn32 {x y z : Int32} {a b : Int64} (ha : a = y.toInt64) (hb : b = z.toInt64) (h : Q (some (.int (if y ≤ x ∧ x ≤ z then 1 else 0))) μ) : jC d 190 [.long x.toInt64, .long a, .long b] μ Q := by
  subst ha
  subst hb
  refine sM_isIn ?_
  simp only [jtl_le]
  exact h
/-- the town that stands: its cells -/
theorem jWt (hW : jWd L t μ) : gS μ t = (6, 16) ∧ gS μ (t + 1) = (101, 8) ∧ gS μ (t + 2) = (100, 8) ∧ gS μ (t + 3) = (100, 8) ∧ gS μ (t + 4) = (100, 8) ∧ gS μ (t + 5) = (100, 8) ∧ gS μ (t + 6) = (100, 32) ∧ gS μ (t + 7) = (100, 32) ∧ gS μ (t + 8) = (103, 12) ∧ gS μ (t + 9) = (100, 40) ∧ gS μ (t + 10) = (100, 64) := by
  have h := hW.1
  rcases hW.2.2.2.2.2.2.2.1 with rfl | rfl <;> simp only [h] <;> exact ⟨rfl, rfl, rfl, rfl, rfl, rfl, rfl, rfl, rfl, rfl, rfl⟩
theorem jWs (hW : jWd L t μ) : jS0 L t = (6, 16) ∧ jS0 L (t + 1) = (101, 8) ∧ jS0 L (t + 2) = (100, 8) ∧ jS0 L (t + 3) = (100, 8) ∧ jS0 L (t + 4) = (100, 8) ∧ jS0 L (t + 5) = (100, 8) ∧ jS0 L (t + 6) = (100, 32) ∧ jS0 L (t + 7) = (100, 32) ∧ jS0 L (t + 8) = (103, 12) ∧ jS0 L (t + 9) = (100, 40) ∧ jS0 L (t + 10) = (100, 64) := by
  rcases hW.2.2.2.2.2.2.2.1 with rfl | rfl <;> exact ⟨rfl, rfl, rfl, rfl, rfl, rfl, rfl, rfl, rfl, rfl, rfl⟩
theorem jWr (hW : jWd L t μ) : gR μ t 6 = some (t + 1) ∧ gR μ t 7 = some (t + 2) ∧ gR μ t 8 = some (t + 3) ∧ gR μ t 9 = some (t + 4) ∧ gR μ t 10 = some (t + 5) ∧ gR μ t 11 = some (t + 6) ∧ gR μ t 12 = some (t + 7) ∧ gR μ t 13 = some (t + 8) ∧ gR μ t 14 = some (t + 9) ∧ gR μ t 15 = some (t + 10) := by
  rcases hW.2.2.2.2.2.2.2.1 with rfl | rfl
  · exact ⟨jr_12_6 hW, jr_12_7 hW, jr_12_8 hW, jr_12_9 hW, jr_12_10 hW, jr_12_11 hW, jr_12_12 hW, jr_12_13 hW, jr_12_14 hW, jr_12_15 hW⟩
  · exact ⟨jr_23_6 hW, jr_23_7 hW, jr_23_8 hW, jr_23_9 hW, jr_23_10 hW, jr_23_11 hW, jr_23_12 hW, jr_23_13 hW, jr_23_14 hW, jr_23_15 hW⟩
theorem jWt0 (hW : jWd L t μ) : gR μ 1 5 = some t := hW.2.2.2.2.2.2.2.2.1
end JB1
