/-! pour -/
section JTD
variable {d L t : Nat} {μ : jMem} {Q : jQ}
/-- cells that are written after j steps of n, from B on -/
def jCp (bk : Bool) (B n j y : Nat) : Bool := if bk = true then decide (B + n - j ≤ y ∧ y < B + n) else decide (B ≤ y ∧ y < B + j)
/-- the step j takes this cell -/
def jCk (bk : Bool) (n j : Nat) : Nat := if bk = true then n - 1 - j else j
theorem jCp_full (bk : Bool) (B n y : Nat) : jCp bk B n n y = true ↔ (B ≤ y ∧ y < B + n) := by
  unfold jCp
  split <;> rw [decide_eq_true_iff] <;> omega
theorem jCp_zero (bk : Bool) (B n y : Nat) : ¬ jCp bk B n 0 y = true := by
  unfold jCp
  split <;> rw [decide_eq_true_iff] <;> omega
theorem jCp_succ (bk : Bool) {B n j y : Nat} (hj : j < n) : jCp bk B n (j + 1) y = true ↔ (y = B + jCk bk n j ∨ jCp bk B n j y = true) := by
  unfold jCp jCk
  cases bk
  · simp; omega
  · simp; omega
theorem jCk_lt (bk : Bool) {n j : Nat} (hj : j < n) : jCk bk n j < n := by
  unfold jCk
  split <;> omega
theorem jCp_src {a b n j : Nat} (hj : j < n) : ¬ jCp (decide (a < b)) b n j (a + jCk (decide (a < b)) n j) := by
  unfold jCp jCk
  by_cases c : a < b
  · simp [c]; omega
  · simp [c]; try omega
theorem jCp_new (bk : Bool) {B n j : Nat} (hj : j < n) : ¬ jCp bk B n j (B + jCk bk n j) := by
  unfold jCp jCk
  cases bk
  · simp
  · simp; omega
def jbi (b : Bool) : Int32 := if b = true then 1 else 0
theorem copy_step {i1 i2 n1 n2 a b n j k : Nat} {z : Option Value} (hW : jWd L t μ) (h1 : i1 < 4) (h2 : i2 < 4) (e1 : gI μ 9 i1 = nI n1) (e2 : gI μ 9 i2 = nI n2) (hn1 : n1 ≤ 64) (hn2 : n2 ≤ 64) (ha : a + k < n1) (hb : b + k < n2) (hn : n ≤ 64) (hj : j < n) (ek : k = if a < b then n - 1 - j else j) (hz : z = none ∨ ∃ w, z = some (.int w))
    (h : ∀ w, jR (d + 5) 114 16 [some (.ref 2), some (.int (nI i1)), some (.int (nI a)), some (.int (nI i2)), some (.int (nI b)), some (.int (nI n)), some (.int (jbi (decide (a < b)))), some (.int (nI (j + 1))), some (.int w)] [] (0, 0) (sL μ (4 + i2) (b + k) (jcut (gI μ 8 i2) (gL μ (4 + i1) (a + k)))) Q) : jR (d + 5) 114 16 [some (.ref 2), some (.int (nI i1)), some (.int (nI a)), some (.int (nI i2)), some (.int (nI b)), some (.int (nI n)), some (.int (jbi (decide (a < b)))), some (.int (nI j)), z] [] (0, 0) μ Q := by
  have g : (nI n ≤ nI j) = False := jN (nI_ge (by omega) (by omega))
  have gk : nI n - 1 - nI j = nI (n - 1 - j) := by rw [li_1, pk_sub (by omega), pk_sub (by omega)]
  by_cases c : a < b
  · rw [if_pos c] at ek
    subst ek
    have g0 : ((1 : Int32) = 0) = False := by decide
    have eb : jbi (decide (a < b)) = 1 := by simp [jbi, c]
    rw [eb] at h
    rw [eb]
    rcases hz with rfl | ⟨w, rfl⟩
    · refine b114_16 ?_
      repeat' (first | refine b114_10 ?_ | refine b114_11 ?_ | refine b114_38 ?_ | refine b114_40 ?_ | refine b114_67 ?_ | refine sp_number hW h1 hn1 e1 ha ?_ | refine sp_put hW h2 hn2 e2 hb ?_ | simp only [jx_blk, jx_op, j1i_c, j2i_c, j1l_c, j2l_c, jil_c, j1r_c, jri_c, jrii_c, jril_c, jrl_c, jrr_c, j2i'_c, jdup_i, jdup_r, jdup2_c, jdup2_l, jpo_c, jli, jll, jlr, jat_0, jat_s, jst, jst2, jkill_i, jkill_r, jkill_l, jkill_n, jnone, jgv_0, jgv_1, jgv_2, jgv_3, jrv_s, jput_0, jput_1, jput_2, jput_3, jpop_0, jpop_1, jcl_s, jc1, jc2, jvi, Nat.reduceAdd, jol_i, jol_l, jol_n, List.map_cons, List.map_nil, List.sum_cons, List.sum_nil, jcI, jcL, jcR, Nat.zero_le, true_and, and_true, and_self, Nat.reduceLeDiff, gI_sI, gI_sL, gI_sR, gL_sI, gL_sL, gL_sR, gR_sI, gR_sL, gR_sR, gS_sI, gS_sL, gS_sR, gN_sI, gN_sL, gN_sR, true_or, or_true, false_or, or_false, Nat.reduceEqDiff, false_and, and_false, if_false, if_true, reduceIte, not_true_eq_false, not_false_eq_true, true_imp_iff, false_imp_iff, jr_2_0 hW, jr_2_1 hW, jr_2_2 hW, hW.1, jS0_2, jS0_3, jS0_8, jS0_9, g, gk, g0, nI_add, nI_1] | refine br_c (fun _ => ?_) (fun _ => ?_) | refine And.intro ?_ ?_)
      exact h _
    · refine b114_16 ?_
      repeat' (first | refine b114_10 ?_ | refine b114_11 ?_ | refine b114_38 ?_ | refine b114_40 ?_ | refine b114_67 ?_ | refine sp_number hW h1 hn1 e1 ha ?_ | refine sp_put hW h2 hn2 e2 hb ?_ | simp only [jx_blk, jx_op, j1i_c, j2i_c, j1l_c, j2l_c, jil_c, j1r_c, jri_c, jrii_c, jril_c, jrl_c, jrr_c, j2i'_c, jdup_i, jdup_r, jdup2_c, jdup2_l, jpo_c, jli, jll, jlr, jat_0, jat_s, jst, jst2, jkill_i, jkill_r, jkill_l, jkill_n, jnone, jgv_0, jgv_1, jgv_2, jgv_3, jrv_s, jput_0, jput_1, jput_2, jput_3, jpop_0, jpop_1, jcl_s, jc1, jc2, jvi, Nat.reduceAdd, jol_i, jol_l, jol_n, List.map_cons, List.map_nil, List.sum_cons, List.sum_nil, jcI, jcL, jcR, Nat.zero_le, true_and, and_true, and_self, Nat.reduceLeDiff, gI_sI, gI_sL, gI_sR, gL_sI, gL_sL, gL_sR, gR_sI, gR_sL, gR_sR, gS_sI, gS_sL, gS_sR, gN_sI, gN_sL, gN_sR, true_or, or_true, false_or, or_false, Nat.reduceEqDiff, false_and, and_false, if_false, if_true, reduceIte, not_true_eq_false, not_false_eq_true, true_imp_iff, false_imp_iff, jr_2_0 hW, jr_2_1 hW, jr_2_2 hW, hW.1, jS0_2, jS0_3, jS0_8, jS0_9, g, gk, g0, nI_add, nI_1] | refine br_c (fun _ => ?_) (fun _ => ?_) | refine And.intro ?_ ?_)
      exact h _
  · rw [if_neg c] at ek
    subst ek
    have g00 : ((0 : Int32) = 0) = True := by decide
    have eb : jbi (decide (a < b)) = 0 := by simp [jbi, c]
    rw [eb] at h
    rw [eb]
    rcases hz with rfl | ⟨w, rfl⟩
    · refine b114_16 ?_
      repeat' (first | refine b114_10 ?_ | refine b114_11 ?_ | refine b114_38 ?_ | refine b114_40 ?_ | refine b114_67 ?_ | refine sp_number hW h1 hn1 e1 ha ?_ | refine sp_put hW h2 hn2 e2 hb ?_ | simp only [jx_blk, jx_op, j1i_c, j2i_c, j1l_c, j2l_c, jil_c, j1r_c, jri_c, jrii_c, jril_c, jrl_c, jrr_c, j2i'_c, jdup_i, jdup_r, jdup2_c, jdup2_l, jpo_c, jli, jll, jlr, jat_0, jat_s, jst, jst2, jkill_i, jkill_r, jkill_l, jkill_n, jnone, jgv_0, jgv_1, jgv_2, jgv_3, jrv_s, jput_0, jput_1, jput_2, jput_3, jpop_0, jpop_1, jcl_s, jc1, jc2, jvi, Nat.reduceAdd, jol_i, jol_l, jol_n, List.map_cons, List.map_nil, List.sum_cons, List.sum_nil, jcI, jcL, jcR, Nat.zero_le, true_and, and_true, and_self, Nat.reduceLeDiff, gI_sI, gI_sL, gI_sR, gL_sI, gL_sL, gL_sR, gR_sI, gR_sL, gR_sR, gS_sI, gS_sL, gS_sR, gN_sI, gN_sL, gN_sR, true_or, or_true, false_or, or_false, Nat.reduceEqDiff, false_and, and_false, if_false, if_true, reduceIte, not_true_eq_false, not_false_eq_true, true_imp_iff, false_imp_iff, jr_2_0 hW, jr_2_1 hW, jr_2_2 hW, hW.1, jS0_2, jS0_3, jS0_8, jS0_9, g, g00, nI_add, nI_1] | refine br_c (fun _ => ?_) (fun _ => ?_) | refine And.intro ?_ ?_)
      exact h _
    · refine b114_16 ?_
      repeat' (first | refine b114_10 ?_ | refine b114_11 ?_ | refine b114_38 ?_ | refine b114_40 ?_ | refine b114_67 ?_ | refine sp_number hW h1 hn1 e1 ha ?_ | refine sp_put hW h2 hn2 e2 hb ?_ | simp only [jx_blk, jx_op, j1i_c, j2i_c, j1l_c, j2l_c, jil_c, j1r_c, jri_c, jrii_c, jril_c, jrl_c, jrr_c, j2i'_c, jdup_i, jdup_r, jdup2_c, jdup2_l, jpo_c, jli, jll, jlr, jat_0, jat_s, jst, jst2, jkill_i, jkill_r, jkill_l, jkill_n, jnone, jgv_0, jgv_1, jgv_2, jgv_3, jrv_s, jput_0, jput_1, jput_2, jput_3, jpop_0, jpop_1, jcl_s, jc1, jc2, jvi, Nat.reduceAdd, jol_i, jol_l, jol_n, List.map_cons, List.map_nil, List.sum_cons, List.sum_nil, jcI, jcL, jcR, Nat.zero_le, true_and, and_true, and_self, Nat.reduceLeDiff, gI_sI, gI_sL, gI_sR, gL_sI, gL_sL, gL_sR, gR_sI, gR_sL, gR_sR, gS_sI, gS_sL, gS_sR, gN_sI, gN_sL, gN_sR, true_or, or_true, false_or, or_false, Nat.reduceEqDiff, false_and, and_false, if_false, if_true, reduceIte, not_true_eq_false, not_false_eq_true, true_imp_iff, false_imp_iff, jr_2_0 hW, jr_2_1 hW, jr_2_2 hW, hW.1, jS0_2, jS0_3, jS0_8, jS0_9, g, g00, nI_add, nI_1] | refine br_c (fun _ => ?_) (fun _ => ?_) | refine And.intro ?_ ?_)
      exact h _
theorem copy_loop {i1 i2 n1 n2 a b n : Nat} (hW : jWd L t μ) (hT : jTr μ) (h1 : i1 < 4) (h2 : i2 < 4) (e1 : gI μ 9 i1 = nI n1) (e2 : gI μ 9 i2 = nI n2) (hn1 : n1 ≤ 64) (hn2 : n2 ≤ 64) (ha : a + n ≤ n1) (hb : b + n ≤ n2) (hs : gI μ 8 i1 = gI μ 8 i2) : ∀ (m j : Nat) (ν : jMem) (z : Option Value), (z = none ∨ ∃ w, z = some (.int w)) → j + m = n → jFr [4 + i2] μ ν → (∀ x, gL ν (4 + i2) x = if jCp (decide (a < b)) b n j x then gL μ (4 + i1) (a + (x - b)) else gL μ (4 + i2) x) → (∀ ν2, jFr [4 + i2] μ ν2 → (∀ x, gL ν2 (4 + i2) x = if b ≤ x ∧ x < b + n then gL μ (4 + i1) (a + (x - b)) else gL μ (4 + i2) x) → Q none ν2) → jR (d + 5) 114 16 ([some (.ref 2), some (.int (nI i1)), some (.int (nI a)), some (.int (nI i2)), some (.int (nI b)), some (.int (nI n)), some (.int (jbi (decide (a < b)))), some (.int (nI j)), z]) [] (0, 0) ν Q := by
  intro m
  induction m with
  | zero =>
    intro j ν z hz hj hF hx h
    have hj : j = n := by omega
    subst hj
    have g : (nI j ≤ nI j) = True := jP (nI_le (Nat.le_refl _) (by omega))
    have k := h ν hF (fun x => by rw [hx]; simp only [jCp_full])
    rcases hz with rfl | ⟨w, rfl⟩
    · refine b114_16 ?_
      repeat' (first | refine b114_10 ?_ | refine b114_11 ?_ | refine b114_38 ?_ | refine b114_40 ?_ | refine b114_67 ?_ | simp only [jx_blk, jx_op, j1i_c, j2i_c, j1l_c, j2l_c, jil_c, j1r_c, jri_c, jrii_c, jril_c, jrl_c, jrr_c, j2i'_c, jdup_i, jdup_r, jdup2_c, jdup2_l, jpo_c, jli, jll, jlr, jat_0, jat_s, jst, jst2, jkill_i, jkill_r, jkill_l, jkill_n, jnone, jgv_0, jgv_1, jgv_2, jgv_3, jrv_s, jput_0, jput_1, jput_2, jput_3, jpop_0, jpop_1, jcl_s, jc1, jc2, jvi, Nat.reduceAdd, jol_i, jol_l, jol_n, List.map_cons, List.map_nil, List.sum_cons, List.sum_nil, jcI, jcL, jcR, Nat.zero_le, true_and, and_true, and_self, Nat.reduceLeDiff, gI_sI, gI_sL, gI_sR, gL_sI, gL_sL, gL_sR, gR_sI, gR_sL, gR_sR, gS_sI, gS_sL, gS_sR, gN_sI, gN_sL, gN_sR, true_or, or_true, false_or, or_false, Nat.reduceEqDiff, false_and, and_false, if_false, if_true, reduceIte, not_true_eq_false, not_false_eq_true, true_imp_iff, false_imp_iff, g] | refine br_c (fun _ => ?_) (fun _ => ?_) | refine And.intro ?_ ?_)
      exact k
    · refine b114_16 ?_
      repeat' (first | refine b114_10 ?_ | refine b114_11 ?_ | refine b114_38 ?_ | refine b114_40 ?_ | refine b114_67 ?_ | simp only [jx_blk, jx_op, j1i_c, j2i_c, j1l_c, j2l_c, jil_c, j1r_c, jri_c, jrii_c, jril_c, jrl_c, jrr_c, j2i'_c, jdup_i, jdup_r, jdup2_c, jdup2_l, jpo_c, jli, jll, jlr, jat_0, jat_s, jst, jst2, jkill_i, jkill_r, jkill_l, jkill_n, jnone, jgv_0, jgv_1, jgv_2, jgv_3, jrv_s, jput_0, jput_1, jput_2, jput_3, jpop_0, jpop_1, jcl_s, jc1, jc2, jvi, Nat.reduceAdd, jol_i, jol_l, jol_n, List.map_cons, List.map_nil, List.sum_cons, List.sum_nil, jcI, jcL, jcR, Nat.zero_le, true_and, and_true, and_self, Nat.reduceLeDiff, gI_sI, gI_sL, gI_sR, gL_sI, gL_sL, gL_sR, gR_sI, gR_sL, gR_sR, gS_sI, gS_sL, gS_sR, gN_sI, gN_sL, gN_sR, true_or, or_true, false_or, or_false, Nat.reduceEqDiff, false_and, and_false, if_false, if_true, reduceIte, not_true_eq_false, not_false_eq_true, true_imp_iff, false_imp_iff, g] | refine br_c (fun _ => ?_) (fun _ => ?_) | refine And.intro ?_ ?_)
      exact k
  | succ m ih =>
    intro j ν z hz hj hF hx h
    have hW2 := hF.wd hW
    have hk := jCk_lt (decide (a < b)) (n := n) (j := j) (by omega)
    have E1 : gI ν 9 i1 = nI n1 := ((hF.1 9 (by simp; omega)).1 i1).trans e1
    have E2 : gI ν 9 i2 = nI n2 := ((hF.1 9 (by simp; omega)).1 i2).trans e2
    have step : ∀ z' : Option Value, (z' = none ∨ ∃ w, z' = some (Value.int w)) → jR (d + 5) 114 16 ([some (.ref 2), some (.int (nI i1)), some (.int (nI a)), some (.int (nI i2)), some (.int (nI b)), some (.int (nI n)), some (.int (jbi (decide (a < b)))), some (.int (nI (j + 1))), z']) [] (0, 0) (sL ν (4 + i2) (b + jCk (decide (a < b)) n j) (jcut (gI ν 8 i2) (gL ν (4 + i1) (a + jCk (decide (a < b)) n j)))) Q := by
      intro z' hz'
      refine ih (j + 1) _ z' hz' (by omega) (hF.trans (jFr.sL (by simp))) (fun x => ?_) h
      have v : gL ν (4 + i1) (a + jCk (decide (a < b)) n j) = gL μ (4 + i1) (a + jCk (decide (a < b)) n j) := by
        by_cases hi : i1 = i2
        · subst hi
          rw [hx, if_neg (jCp_src (by omega))]
        · exact (hF.1 (4 + i1) (by simp; omega)).2 _
      have w : jcut (gI ν 8 i2) (gL μ (4 + i1) (a + jCk (decide (a < b)) n j)) = gL μ (4 + i1) (a + jCk (decide (a < b)) n j) := by
        rw [(hF.1 8 (by simp; omega)).1, ← hs]
        exact ((hT i1 h1).2.2.2 _ (by rw [e1, nI_clamp (by omega)]; omega)).2
      rw [v, w, gL_sL]
      by_cases hc : x = b + jCk (decide (a < b)) n j
      · rw [if_pos ⟨rfl, hc⟩, if_pos ((jCp_succ _ (by omega)).mpr (Or.inl hc)), hc, Nat.add_sub_cancel_left]
      · rw [if_neg (fun q => hc q.2), hx]
        by_cases hd : jCp (decide (a < b)) b n j x
        · rw [if_pos hd, if_pos ((jCp_succ _ (by omega)).mpr (Or.inr hd))]
        · rw [if_neg hd, if_neg (fun q => ((jCp_succ _ (by omega)).mp q).elim hc hd)]
    exact copy_step hW2 h1 h2 E1 E2 hn1 hn2 (by omega) (by omega) (by omega) (by omega) (by unfold jCk; by_cases c : a < b <;> simp [c]) hz (fun w => step (some (.int w)) (Or.inr ⟨w, rfl⟩))
theorem sp_copy {i1 i2 n1 n2 a b n : Nat} (hW : jWd L t μ) (hT : jTr μ) (h1 : i1 < 4) (h2 : i2 < 4) (e1 : gI μ 9 i1 = nI n1) (e2 : gI μ 9 i2 = nI n2) (hn1 : n1 ≤ 64) (hn2 : n2 ≤ 64) (ha : a + n ≤ n1) (hb : b + n ≤ n2) (hs : gI μ 8 i1 = gI μ 8 i2) (h : ∀ ν2, jFr [4 + i2] μ ν2 → (∀ x, gL ν2 (4 + i2) x = if b ≤ x ∧ x < b + n then gL μ (4 + i1) (a + (x - b)) else gL μ (4 + i2) x) → Q none ν2) : jC (d + 5) 114 [.ref 2, .int (nI i1), .int (nI a), .int (nI i2), .int (nI b), .int (nI n)] μ Q := by
  have hl := copy_loop (d := d) (Q := Q) hW hT h1 h2 e1 e2 hn1 hn2 ha hb hs n 0 μ none (Or.inl rfl) (by omega) jFr.rf (fun x => by rw [if_neg (jCp_zero _ _ _ _)]) h
  rw [show nI 0 = (0 : Int32) from rfl] at hl
  refine e114 (b114_0 ?_)
  by_cases c : a < b
  · have g : (nI b ≤ nI a) = False := jN (nI_ge c (by omega))
    have eb : jbi (decide (a < b)) = 1 := by simp [jbi, c]
    rw [eb] at hl
    repeat' (first | refine b114_10 ?_ | refine b114_11 ?_ | refine b114_38 ?_ | refine b114_40 ?_ | refine b114_67 ?_ | simp only [jx_blk, jx_op, j1i_c, j2i_c, j1l_c, j2l_c, jil_c, j1r_c, jri_c, jrii_c, jril_c, jrl_c, jrr_c, j2i'_c, jdup_i, jdup_r, jdup2_c, jdup2_l, jpo_c, jli, jll, jlr, jat_0, jat_s, jst, jst2, jkill_i, jkill_r, jkill_l, jkill_n, jnone, jgv_0, jgv_1, jgv_2, jgv_3, jrv_s, jput_0, jput_1, jput_2, jput_3, jpop_0, jpop_1, jcl_s, jc1, jc2, jvi, Nat.reduceAdd, jol_i, jol_l, jol_n, List.map_cons, List.map_nil, List.sum_cons, List.sum_nil, jcI, jcL, jcR, Nat.zero_le, true_and, and_true, and_self, Nat.reduceLeDiff, gI_sI, gI_sL, gI_sR, gL_sI, gL_sL, gL_sR, gR_sI, gR_sL, gR_sR, gS_sI, gS_sL, gS_sR, gN_sI, gN_sL, gN_sR, true_or, or_true, false_or, or_false, Nat.reduceEqDiff, false_and, and_false, if_false, if_true, reduceIte, not_true_eq_false, not_false_eq_true, true_imp_iff, false_imp_iff, g] | refine br_c (fun _ => ?_) (fun _ => ?_) | refine And.intro ?_ ?_)
    exact hl
  · have g : (nI b ≤ nI a) = True := jP (nI_le (by omega) (by omega))
    have eb : jbi (decide (a < b)) = 0 := by simp [jbi, c]
    rw [eb] at hl
    repeat' (first | refine b114_10 ?_ | refine b114_11 ?_ | refine b114_38 ?_ | refine b114_40 ?_ | refine b114_67 ?_ | simp only [jx_blk, jx_op, j1i_c, j2i_c, j1l_c, j2l_c, jil_c, j1r_c, jri_c, jrii_c, jril_c, jrl_c, jrr_c, j2i'_c, jdup_i, jdup_r, jdup2_c, jdup2_l, jpo_c, jli, jll, jlr, jat_0, jat_s, jst, jst2, jkill_i, jkill_r, jkill_l, jkill_n, jnone, jgv_0, jgv_1, jgv_2, jgv_3, jrv_s, jput_0, jput_1, jput_2, jput_3, jpop_0, jpop_1, jcl_s, jc1, jc2, jvi, Nat.reduceAdd, jol_i, jol_l, jol_n, List.map_cons, List.map_nil, List.sum_cons, List.sum_nil, jcI, jcL, jcR, Nat.zero_le, true_and, and_true, and_self, Nat.reduceLeDiff, gI_sI, gI_sL, gI_sR, gL_sI, gL_sL, gL_sR, gR_sI, gR_sL, gR_sR, gS_sI, gS_sL, gS_sR, gN_sI, gN_sL, gN_sR, true_or, or_true, false_or, or_false, Nat.reduceEqDiff, false_and, and_false, if_false, if_true, reduceIte, not_true_eq_false, not_false_eq_true, true_imp_iff, false_imp_iff, g] | refine br_c (fun _ => ?_) (fun _ => ?_) | refine And.intro ?_ ?_)
    exact hl
theorem mcopy_step {i1 i2 a b n j k : Nat} {z : Option Value} (hW : jWd L t μ) (h1 : i1 < 4) (h2 : i2 < 4) (ha : a + k < 64) (hb : b + k < 64) (hn : n ≤ 64) (hj : j < n) (ek : k = if a < b then n - 1 - j else j) (hz : z = none ∨ ∃ w, z = some (.int w))
    (h : ∀ w, jR d 199 158 [some (.ref 133), some (.int (nI i1)), some (.int (nI a)), some (.int (nI i2)), some (.int (nI b)), some (.int (nI n)), some (.int (jbi (decide (a < b)))), some (.int (nI (j + 1))), some (.int w)] [] (0, 0) (sL μ 136 (64 * i2 + b + k) (gL μ 136 (64 * i1 + a + k))) Q) : jR d 199 158 [some (.ref 133), some (.int (nI i1)), some (.int (nI a)), some (.int (nI i2)), some (.int (nI b)), some (.int (nI n)), some (.int (jbi (decide (a < b)))), some (.int (nI j)), z] [] (0, 0) μ Q := by
  have g : (nI n ≤ nI j) = False := jN (nI_ge (by omega) (by omega))
  have gk : nI n - 1 - nI j = nI (n - 1 - j) := by rw [li_1, pk_sub (by omega), pk_sub (by omega)]
  have f1 := jcl_n (k := 64 * i1 + a + k) (by omega)
  have f2 := jcl_n (k := 64 * i2 + b + k) (by omega)
  have f3 : vp_in (nI (64 * i1 + a + k)) 256 := vp_in_nI (by omega) (by omega)
  have f4 : vp_in (nI (64 * i2 + b + k)) 256 := vp_in_nI (by omega) (by omega)
  by_cases c : a < b
  · rw [if_pos c] at ek
    subst ek
    have g0 : ((1 : Int32) = 0) = False := by decide
    have eb : jbi (decide (a < b)) = 1 := by simp [jbi, c]
    rw [eb] at h
    rw [eb]
    rcases hz with rfl | ⟨w, rfl⟩
    · refine b199_158 ?_
      repeat' (first | refine b199_28 ?_ | refine b199_34 ?_ | refine b199_52 ?_ | refine b199_58 ?_ | refine b199_80 ?_ | refine b199_92 ?_ | refine b199_136 ?_ | refine b199_142 ?_ | refine b199_152 ?_ | refine b199_153 ?_ | refine b199_180 ?_ | refine b199_182 ?_ | refine b199_219 ?_ | simp only [jx_blk, jx_op, j1i_c, j2i_c, j1l_c, j2l_c, jil_c, j1r_c, jri_c, jrii_c, jril_c, jrl_c, jrr_c, j2i'_c, jdup_i, jdup_r, jdup2_c, jdup2_l, jpo_c, jli, jll, jlr, jat_0, jat_s, jst, jst2, jkill_i, jkill_r, jkill_l, jkill_n, jnone, jgv_0, jgv_1, jgv_2, jgv_3, jrv_s, jput_0, jput_1, jput_2, jput_3, jpop_0, jpop_1, jcl_s, jc1, jc2, jvi, Nat.reduceAdd, jol_i, jol_l, jol_n, List.map_cons, List.map_nil, List.sum_cons, List.sum_nil, jcI, jcL, jcR, Nat.zero_le, true_and, and_true, and_self, Nat.reduceLeDiff, gI_sI, gI_sL, gI_sR, gL_sI, gL_sL, gL_sR, gR_sI, gR_sL, gR_sR, gS_sI, gS_sL, gS_sR, gN_sI, gN_sL, gN_sR, true_or, or_true, false_or, or_false, Nat.reduceEqDiff, false_and, and_false, if_false, if_true, reduceIte, not_true_eq_false, not_false_eq_true, true_imp_iff, false_imp_iff, jr_133_4 hW, jr_133_5 hW, jr_133_6 hW, jr_133_7 hW, jr_133_31 hW, jr_133_32 hW, jr_133_33 hW, jr_133_34 hW, jr_133_35 hW, jr_133_36 hW, jr_133_37 hW, jr_133_38 hW, jr_133_39 hW, jr_133_40 hW, jr_133_41 hW, jr_133_42 hW, jr_133_44 hW, jr_133_45 hW, jr_133_46 hW, jr_133_47 hW, jr_133_48 hW, jr_133_49 hW, jr_133_50 hW, jr_133_51 hW, jr_133_55 hW, jr_133_56 hW, jr_133_57 hW, jr_133_58 hW, jr_133_62 hW, jr_133_65 hW, jr_133_66 hW, jr_133_67 hW, jr_133_68 hW, jr_133_69 hW, jr_133_70 hW, jr_133_71 hW, jr_133_74 hW, jr_133_75 hW, hW.1, jS0_133, jS0_134, jS0_135, jS0_136, jS0_137, jS0_138, jS0_139, jS0_140, jS0_141, jS0_142, jS0_143, jS0_144, jS0_145, jS0_146, jS0_147, jS0_148, jS0_149, jS0_150, jS0_151, jS0_152, jS0_153, jS0_154, jS0_155, jS0_156, jS0_157, jS0_158, jS0_159, jS0_160, jS0_161, jS0_162, jS0_163, jS0_164, jS0_165, jS0_166, jS0_167, jS0_168, jS0_169, jS0_170, jS0_171, g, gk, g0, li_64, pk_mul, nI_add, nI_1, f1, f2, f3, f4] | refine br_c (fun _ => ?_) (fun _ => ?_) | refine And.intro ?_ ?_)
      exact h _
    · refine b199_158 ?_
      repeat' (first | refine b199_28 ?_ | refine b199_34 ?_ | refine b199_52 ?_ | refine b199_58 ?_ | refine b199_80 ?_ | refine b199_92 ?_ | refine b199_136 ?_ | refine b199_142 ?_ | refine b199_152 ?_ | refine b199_153 ?_ | refine b199_180 ?_ | refine b199_182 ?_ | refine b199_219 ?_ | simp only [jx_blk, jx_op, j1i_c, j2i_c, j1l_c, j2l_c, jil_c, j1r_c, jri_c, jrii_c, jril_c, jrl_c, jrr_c, j2i'_c, jdup_i, jdup_r, jdup2_c, jdup2_l, jpo_c, jli, jll, jlr, jat_0, jat_s, jst, jst2, jkill_i, jkill_r, jkill_l, jkill_n, jnone, jgv_0, jgv_1, jgv_2, jgv_3, jrv_s, jput_0, jput_1, jput_2, jput_3, jpop_0, jpop_1, jcl_s, jc1, jc2, jvi, Nat.reduceAdd, jol_i, jol_l, jol_n, List.map_cons, List.map_nil, List.sum_cons, List.sum_nil, jcI, jcL, jcR, Nat.zero_le, true_and, and_true, and_self, Nat.reduceLeDiff, gI_sI, gI_sL, gI_sR, gL_sI, gL_sL, gL_sR, gR_sI, gR_sL, gR_sR, gS_sI, gS_sL, gS_sR, gN_sI, gN_sL, gN_sR, true_or, or_true, false_or, or_false, Nat.reduceEqDiff, false_and, and_false, if_false, if_true, reduceIte, not_true_eq_false, not_false_eq_true, true_imp_iff, false_imp_iff, jr_133_4 hW, jr_133_5 hW, jr_133_6 hW, jr_133_7 hW, jr_133_31 hW, jr_133_32 hW, jr_133_33 hW, jr_133_34 hW, jr_133_35 hW, jr_133_36 hW, jr_133_37 hW, jr_133_38 hW, jr_133_39 hW, jr_133_40 hW, jr_133_41 hW, jr_133_42 hW, jr_133_44 hW, jr_133_45 hW, jr_133_46 hW, jr_133_47 hW, jr_133_48 hW, jr_133_49 hW, jr_133_50 hW, jr_133_51 hW, jr_133_55 hW, jr_133_56 hW, jr_133_57 hW, jr_133_58 hW, jr_133_62 hW, jr_133_65 hW, jr_133_66 hW, jr_133_67 hW, jr_133_68 hW, jr_133_69 hW, jr_133_70 hW, jr_133_71 hW, jr_133_74 hW, jr_133_75 hW, hW.1, jS0_133, jS0_134, jS0_135, jS0_136, jS0_137, jS0_138, jS0_139, jS0_140, jS0_141, jS0_142, jS0_143, jS0_144, jS0_145, jS0_146, jS0_147, jS0_148, jS0_149, jS0_150, jS0_151, jS0_152, jS0_153, jS0_154, jS0_155, jS0_156, jS0_157, jS0_158, jS0_159, jS0_160, jS0_161, jS0_162, jS0_163, jS0_164, jS0_165, jS0_166, jS0_167, jS0_168, jS0_169, jS0_170, jS0_171, g, gk, g0, li_64, pk_mul, nI_add, nI_1, f1, f2, f3, f4] | refine br_c (fun _ => ?_) (fun _ => ?_) | refine And.intro ?_ ?_)
      exact h _
  · rw [if_neg c] at ek
    subst ek
    have g00 : ((0 : Int32) = 0) = True := by decide
    have eb : jbi (decide (a < b)) = 0 := by simp [jbi, c]
    rw [eb] at h
    rw [eb]
    rcases hz with rfl | ⟨w, rfl⟩
    · refine b199_158 ?_
      repeat' (first | refine b199_28 ?_ | refine b199_34 ?_ | refine b199_52 ?_ | refine b199_58 ?_ | refine b199_80 ?_ | refine b199_92 ?_ | refine b199_136 ?_ | refine b199_142 ?_ | refine b199_152 ?_ | refine b199_153 ?_ | refine b199_180 ?_ | refine b199_182 ?_ | refine b199_219 ?_ | simp only [jx_blk, jx_op, j1i_c, j2i_c, j1l_c, j2l_c, jil_c, j1r_c, jri_c, jrii_c, jril_c, jrl_c, jrr_c, j2i'_c, jdup_i, jdup_r, jdup2_c, jdup2_l, jpo_c, jli, jll, jlr, jat_0, jat_s, jst, jst2, jkill_i, jkill_r, jkill_l, jkill_n, jnone, jgv_0, jgv_1, jgv_2, jgv_3, jrv_s, jput_0, jput_1, jput_2, jput_3, jpop_0, jpop_1, jcl_s, jc1, jc2, jvi, Nat.reduceAdd, jol_i, jol_l, jol_n, List.map_cons, List.map_nil, List.sum_cons, List.sum_nil, jcI, jcL, jcR, Nat.zero_le, true_and, and_true, and_self, Nat.reduceLeDiff, gI_sI, gI_sL, gI_sR, gL_sI, gL_sL, gL_sR, gR_sI, gR_sL, gR_sR, gS_sI, gS_sL, gS_sR, gN_sI, gN_sL, gN_sR, true_or, or_true, false_or, or_false, Nat.reduceEqDiff, false_and, and_false, if_false, if_true, reduceIte, not_true_eq_false, not_false_eq_true, true_imp_iff, false_imp_iff, jr_133_4 hW, jr_133_5 hW, jr_133_6 hW, jr_133_7 hW, jr_133_31 hW, jr_133_32 hW, jr_133_33 hW, jr_133_34 hW, jr_133_35 hW, jr_133_36 hW, jr_133_37 hW, jr_133_38 hW, jr_133_39 hW, jr_133_40 hW, jr_133_41 hW, jr_133_42 hW, jr_133_44 hW, jr_133_45 hW, jr_133_46 hW, jr_133_47 hW, jr_133_48 hW, jr_133_49 hW, jr_133_50 hW, jr_133_51 hW, jr_133_55 hW, jr_133_56 hW, jr_133_57 hW, jr_133_58 hW, jr_133_62 hW, jr_133_65 hW, jr_133_66 hW, jr_133_67 hW, jr_133_68 hW, jr_133_69 hW, jr_133_70 hW, jr_133_71 hW, jr_133_74 hW, jr_133_75 hW, hW.1, jS0_133, jS0_134, jS0_135, jS0_136, jS0_137, jS0_138, jS0_139, jS0_140, jS0_141, jS0_142, jS0_143, jS0_144, jS0_145, jS0_146, jS0_147, jS0_148, jS0_149, jS0_150, jS0_151, jS0_152, jS0_153, jS0_154, jS0_155, jS0_156, jS0_157, jS0_158, jS0_159, jS0_160, jS0_161, jS0_162, jS0_163, jS0_164, jS0_165, jS0_166, jS0_167, jS0_168, jS0_169, jS0_170, jS0_171, g, g00, li_64, pk_mul, nI_add, nI_1, f1, f2, f3, f4] | refine br_c (fun _ => ?_) (fun _ => ?_) | refine And.intro ?_ ?_)
      exact h _
    · refine b199_158 ?_
      repeat' (first | refine b199_28 ?_ | refine b199_34 ?_ | refine b199_52 ?_ | refine b199_58 ?_ | refine b199_80 ?_ | refine b199_92 ?_ | refine b199_136 ?_ | refine b199_142 ?_ | refine b199_152 ?_ | refine b199_153 ?_ | refine b199_180 ?_ | refine b199_182 ?_ | refine b199_219 ?_ | simp only [jx_blk, jx_op, j1i_c, j2i_c, j1l_c, j2l_c, jil_c, j1r_c, jri_c, jrii_c, jril_c, jrl_c, jrr_c, j2i'_c, jdup_i, jdup_r, jdup2_c, jdup2_l, jpo_c, jli, jll, jlr, jat_0, jat_s, jst, jst2, jkill_i, jkill_r, jkill_l, jkill_n, jnone, jgv_0, jgv_1, jgv_2, jgv_3, jrv_s, jput_0, jput_1, jput_2, jput_3, jpop_0, jpop_1, jcl_s, jc1, jc2, jvi, Nat.reduceAdd, jol_i, jol_l, jol_n, List.map_cons, List.map_nil, List.sum_cons, List.sum_nil, jcI, jcL, jcR, Nat.zero_le, true_and, and_true, and_self, Nat.reduceLeDiff, gI_sI, gI_sL, gI_sR, gL_sI, gL_sL, gL_sR, gR_sI, gR_sL, gR_sR, gS_sI, gS_sL, gS_sR, gN_sI, gN_sL, gN_sR, true_or, or_true, false_or, or_false, Nat.reduceEqDiff, false_and, and_false, if_false, if_true, reduceIte, not_true_eq_false, not_false_eq_true, true_imp_iff, false_imp_iff, jr_133_4 hW, jr_133_5 hW, jr_133_6 hW, jr_133_7 hW, jr_133_31 hW, jr_133_32 hW, jr_133_33 hW, jr_133_34 hW, jr_133_35 hW, jr_133_36 hW, jr_133_37 hW, jr_133_38 hW, jr_133_39 hW, jr_133_40 hW, jr_133_41 hW, jr_133_42 hW, jr_133_44 hW, jr_133_45 hW, jr_133_46 hW, jr_133_47 hW, jr_133_48 hW, jr_133_49 hW, jr_133_50 hW, jr_133_51 hW, jr_133_55 hW, jr_133_56 hW, jr_133_57 hW, jr_133_58 hW, jr_133_62 hW, jr_133_65 hW, jr_133_66 hW, jr_133_67 hW, jr_133_68 hW, jr_133_69 hW, jr_133_70 hW, jr_133_71 hW, jr_133_74 hW, jr_133_75 hW, hW.1, jS0_133, jS0_134, jS0_135, jS0_136, jS0_137, jS0_138, jS0_139, jS0_140, jS0_141, jS0_142, jS0_143, jS0_144, jS0_145, jS0_146, jS0_147, jS0_148, jS0_149, jS0_150, jS0_151, jS0_152, jS0_153, jS0_154, jS0_155, jS0_156, jS0_157, jS0_158, jS0_159, jS0_160, jS0_161, jS0_162, jS0_163, jS0_164, jS0_165, jS0_166, jS0_167, jS0_168, jS0_169, jS0_170, jS0_171, g, g00, li_64, pk_mul, nI_add, nI_1, f1, f2, f3, f4] | refine br_c (fun _ => ?_) (fun _ => ?_) | refine And.intro ?_ ?_)
      exact h _
theorem mcopy_loop {i1 i2 a b n : Nat} (hW : jWd L t μ) (h1 : i1 < 4) (h2 : i2 < 4) (ha : a + n ≤ 64) (hb : b + n ≤ 64) : ∀ (m j : Nat) (ν : jMem) (z : Option Value), (z = none ∨ ∃ w, z = some (.int w)) → j + m = n → jFr [136] μ ν → (∀ y, gL ν 136 y = if jCp (decide (a < b)) (64 * i2 + b) n j y then gL μ 136 (64 * i1 + a + (y - (64 * i2 + b))) else gL μ 136 y) → (∀ ν2, jFr [136] μ ν2 → (∀ y, gL ν2 136 y = if 64 * i2 + b ≤ y ∧ y < 64 * i2 + b + n then gL μ 136 (64 * i1 + a + (y - (64 * i2 + b))) else gL μ 136 y) → Q (some (.int 1)) ν2) → jR d 199 158 [some (.ref 133), some (.int (nI i1)), some (.int (nI a)), some (.int (nI i2)), some (.int (nI b)), some (.int (nI n)), some (.int (jbi (decide (a < b)))), some (.int (nI j)), z] [] (0, 0) ν Q := by
  intro m
  induction m with
  | zero =>
    intro j ν z hz hj hF hx h
    have hj : j = n := by omega
    subst hj
    have g : (nI j ≤ nI j) = True := jP (nI_le (Nat.le_refl _) (by omega))
    have k := h ν hF (fun y => by rw [hx]; simp only [jCp_full])
    rcases hz with rfl | ⟨w, rfl⟩
    · refine b199_158 ?_
      repeat' (first | refine b199_28 ?_ | refine b199_34 ?_ | refine b199_52 ?_ | refine b199_58 ?_ | refine b199_80 ?_ | refine b199_92 ?_ | refine b199_136 ?_ | refine b199_142 ?_ | refine b199_152 ?_ | refine b199_153 ?_ | refine b199_180 ?_ | refine b199_182 ?_ | refine b199_219 ?_ | simp only [jx_blk, jx_op, j1i_c, j2i_c, j1l_c, j2l_c, jil_c, j1r_c, jri_c, jrii_c, jril_c, jrl_c, jrr_c, j2i'_c, jdup_i, jdup_r, jdup2_c, jdup2_l, jpo_c, jli, jll, jlr, jat_0, jat_s, jst, jst2, jkill_i, jkill_r, jkill_l, jkill_n, jnone, jgv_0, jgv_1, jgv_2, jgv_3, jrv_s, jput_0, jput_1, jput_2, jput_3, jpop_0, jpop_1, jcl_s, jc1, jc2, jvi, Nat.reduceAdd, jol_i, jol_l, jol_n, List.map_cons, List.map_nil, List.sum_cons, List.sum_nil, jcI, jcL, jcR, Nat.zero_le, true_and, and_true, and_self, Nat.reduceLeDiff, gI_sI, gI_sL, gI_sR, gL_sI, gL_sL, gL_sR, gR_sI, gR_sL, gR_sR, gS_sI, gS_sL, gS_sR, gN_sI, gN_sL, gN_sR, true_or, or_true, false_or, or_false, Nat.reduceEqDiff, false_and, and_false, if_false, if_true, reduceIte, not_true_eq_false, not_false_eq_true, true_imp_iff, false_imp_iff, g] | refine br_c (fun _ => ?_) (fun _ => ?_) | refine And.intro ?_ ?_)
      exact k
    · refine b199_158 ?_
      repeat' (first | refine b199_28 ?_ | refine b199_34 ?_ | refine b199_52 ?_ | refine b199_58 ?_ | refine b199_80 ?_ | refine b199_92 ?_ | refine b199_136 ?_ | refine b199_142 ?_ | refine b199_152 ?_ | refine b199_153 ?_ | refine b199_180 ?_ | refine b199_182 ?_ | refine b199_219 ?_ | simp only [jx_blk, jx_op, j1i_c, j2i_c, j1l_c, j2l_c, jil_c, j1r_c, jri_c, jrii_c, jril_c, jrl_c, jrr_c, j2i'_c, jdup_i, jdup_r, jdup2_c, jdup2_l, jpo_c, jli, jll, jlr, jat_0, jat_s, jst, jst2, jkill_i, jkill_r, jkill_l, jkill_n, jnone, jgv_0, jgv_1, jgv_2, jgv_3, jrv_s, jput_0, jput_1, jput_2, jput_3, jpop_0, jpop_1, jcl_s, jc1, jc2, jvi, Nat.reduceAdd, jol_i, jol_l, jol_n, List.map_cons, List.map_nil, List.sum_cons, List.sum_nil, jcI, jcL, jcR, Nat.zero_le, true_and, and_true, and_self, Nat.reduceLeDiff, gI_sI, gI_sL, gI_sR, gL_sI, gL_sL, gL_sR, gR_sI, gR_sL, gR_sR, gS_sI, gS_sL, gS_sR, gN_sI, gN_sL, gN_sR, true_or, or_true, false_or, or_false, Nat.reduceEqDiff, false_and, and_false, if_false, if_true, reduceIte, not_true_eq_false, not_false_eq_true, true_imp_iff, false_imp_iff, g] | refine br_c (fun _ => ?_) (fun _ => ?_) | refine And.intro ?_ ?_)
      exact k
  | succ m ih =>
    intro j ν z hz hj hF hx h
    have hW2 := hF.wd hW
    have hk := jCk_lt (decide (a < b)) (n := n) (j := j) (by omega)
    refine mcopy_step (k := jCk (decide (a < b)) n j) hW2 h1 h2 (by omega) (by omega) (by omega) (by omega) (by unfold jCk; by_cases c : a < b <;> simp [c]) hz (fun w => ?_)
    refine ih (j + 1) _ _ (Or.inr ⟨w, rfl⟩) (by omega) (hF.trans (jFr.sL (by simp))) (fun y => ?_) h
    have hs : ¬ jCp (decide (a < b)) (64 * i2 + b) n j (64 * i1 + a + jCk (decide (a < b)) n j) = true := by
      unfold jCp jCk
      by_cases c : a < b
      · simp [c]; omega
      · simp [c]; omega
    have v : gL ν 136 (64 * i1 + a + jCk (decide (a < b)) n j) = gL μ 136 (64 * i1 + a + jCk (decide (a < b)) n j) := by rw [hx, if_neg hs]
    rw [v, gL_sL]
    by_cases hc : y = 64 * i2 + b + jCk (decide (a < b)) n j
    · rw [if_pos ⟨rfl, hc⟩, if_pos ((jCp_succ _ (by omega)).mpr (Or.inl hc)), hc, Nat.add_sub_cancel_left]
    · rw [if_neg (fun q => hc q.2), hx]
      by_cases hd : jCp (decide (a < b)) (64 * i2 + b) n j y = true
      · rw [if_pos hd, if_pos ((jCp_succ _ (by omega)).mpr (Or.inr hd))]
      · rw [if_neg hd, if_neg (fun q => ((jCp_succ _ (by omega)).mp q).elim hc hd)]
end JTD
