/-! THE LAW: a call of the class, the same call of the reference: one answer, the invariant again -/
def jRel (d nx nm : Nat) (as : List Value) (I : Nat → jMem → Prop) (L : Nat) (lg : Bool) (μ : jMem) : Prop := jC d nx (.ref 1 :: as) μ (fun r ν => (if lg = true then ∃ x, r = some (.long x) else ∃ x, r = some (.int x)) ∧ (∀ k, gI ν 0 k = gI μ 0 k) ∧ (∀ a, gS ν a = gS μ a) ∧ jC d nm (.ref 133 :: as) ν (fun r' ν' => r' = r ∧ I L ν'))
def jShp (I : Nat → jMem → Prop) : Prop := ∀ L μ, I L μ → gS μ 0 = (100, L) ∧ (gS μ 1).1 = 11 ∧ (gS μ 133).1 = 12
theorem lcmp0 (x : Int64) : lg_cmp x x = 0 := by unfold lg_cmp; rw [if_neg (by simp), if_pos rfl]
set_option maxRecDepth 100000 in
theorem lk_0 {d i L : Nat} {al : Nat × Nat} {μ : jMem} {Q : jQ} {I : Nat → jMem → Prop} (hSh : jShp I) (R : ∀ L μ, I L μ → jRel d 139 185 [] I L false μ) (hI : I L μ) (hi : i + 8 ≤ L) (hL : L ≤ 4096) (a1 : al.1 ≤ jmC 297) (a2 : al.2 ≤ jmS 297) (K : ∀ ν, I L ν → jR (d + 1) 297 1501 [some (.ref 0), some (.ref 1), some (.ref 133), some (.int (nI i))] [] al ν Q) : jR (d + 1) 297 184 [some (.ref 0), some (.ref 1), some (.ref 133), some (.int (nI i))] [] al μ Q := by
  obtain ⟨h0, h1, h2⟩ := hSh L μ hI
  have v1 : vp_in (nI i + 1) L := by rw [show (nI i + 1 : Int32) = nI (i + 1) from nI_add i 1]; exact vp_in_nI (by omega) (by omega)
  have v2 : vp_in (nI i + 2) L := by rw [show (nI i + 2 : Int32) = nI (i + 2) from nI_add i 2]; exact vp_in_nI (by omega) (by omega)
  have v3 : vp_in (nI i + 3) L := by rw [show (nI i + 3 : Int32) = nI (i + 3) from nI_add i 3]; exact vp_in_nI (by omega) (by omega)
  have v4 : vp_in (nI i + 4) L := by rw [show (nI i + 4 : Int32) = nI (i + 4) from nI_add i 4]; exact vp_in_nI (by omega) (by omega)
  have v5 : vp_in (nI i + 5) L := by rw [show (nI i + 5 : Int32) = nI (i + 5) from nI_add i 5]; exact vp_in_nI (by omega) (by omega)
  have v6 : vp_in (nI i + 6) L := by rw [show (nI i + 6 : Int32) = nI (i + 6) from nI_add i 6]; exact vp_in_nI (by omega) (by omega)
  have v7 : vp_in (nI i + 7) L := by rw [show (nI i + 7 : Int32) = nI (i + 7) from nI_add i 7]; exact vp_in_nI (by omega) (by omega)
  refine b297_184 ?_
  simp only [jx_blk, jx_op, j1i_c, j2i_c, j1l_c, j2l_c, jil_c, j1r_c, jri_c, jrii_c, jril_c, jrl_c, jrr_c, j2i'_c, jdup_i, jdup_r, jdup2_c, jdup2_l, jpo_c, jli, jll, jlr, jat_0, jat_s, jst, jst2, jkill_i, jkill_r, jkill_l, jkill_n, jnone, jgv_0, jgv_1, jgv_2, jgv_3, jrv_s, jput_0, jput_1, jput_2, jput_3, jpop_0, jpop_1, jcl_s, jc1, jc2, jvi, Nat.reduceAdd, jol_i, jol_l, jol_n, List.map_cons, List.map_nil, List.sum_cons, List.sum_nil, jcI, jcL, jcR, Nat.zero_le, true_and, and_true, and_self, Nat.reduceLeDiff, gI_sI, gI_sL, gI_sR, gL_sI, gL_sL, gL_sR, gR_sI, gR_sL, gR_sR, gS_sI, gS_sL, gS_sR, gN_sI, gN_sL, gN_sR, true_or, or_true, false_or, or_false, Nat.reduceEqDiff, false_and, and_false, if_false, if_true, reduceIte, not_true_eq_false, not_false_eq_true, h0, h1, h2, a1, a2, v1, v2, v3, v4, v5, v6, v7]
  refine jC_post (R _ _ hI) ?_
  rintro r ν ⟨hr, hg, hs, h3⟩
  simp only [if_true, if_false, Bool.false_eq_true] at hr
  obtain ⟨x, rfl⟩ := hr
  simp only [jx_blk, jx_op, j1i_c, j2i_c, j1l_c, j2l_c, jil_c, j1r_c, jri_c, jrii_c, jril_c, jrl_c, jrr_c, j2i'_c, jdup_i, jdup_r, jdup2_c, jdup2_l, jpo_c, jli, jll, jlr, jat_0, jat_s, jst, jst2, jkill_i, jkill_r, jkill_l, jkill_n, jnone, jgv_0, jgv_1, jgv_2, jgv_3, jrv_s, jput_0, jput_1, jput_2, jput_3, jpop_0, jpop_1, jcl_s, jc1, jc2, jvi, Nat.reduceAdd, jol_i, jol_l, jol_n, List.map_cons, List.map_nil, List.sum_cons, List.sum_nil, jcI, jcL, jcR, Nat.zero_le, true_and, and_true, and_self, Nat.reduceLeDiff, gI_sI, gI_sL, gI_sR, gL_sI, gL_sL, gL_sR, gR_sI, gR_sL, gR_sR, gS_sI, gS_sL, gS_sR, gN_sI, gN_sL, gN_sR, true_or, or_true, false_or, or_false, Nat.reduceEqDiff, false_and, and_false, if_false, if_true, reduceIte, not_true_eq_false, not_false_eq_true, hs, h0, h1, h2, a1, a2, v1, v2, v3, v4, v5, v6, v7, hg]
  refine jC_post h3 ?_
  rintro r2 ν2 ⟨rfl, hI2⟩
  simp only [jx_blk, jx_op, j1i_c, j2i_c, j1l_c, j2l_c, jil_c, j1r_c, jri_c, jrii_c, jril_c, jrl_c, jrr_c, j2i'_c, jdup_i, jdup_r, jdup2_c, jdup2_l, jpo_c, jli, jll, jlr, jat_0, jat_s, jst, jst2, jkill_i, jkill_r, jkill_l, jkill_n, jnone, jgv_0, jgv_1, jgv_2, jgv_3, jrv_s, jput_0, jput_1, jput_2, jput_3, jpop_0, jpop_1, jcl_s, jc1, jc2, jvi, Nat.reduceAdd, jol_i, jol_l, jol_n, List.map_cons, List.map_nil, List.sum_cons, List.sum_nil, jcI, jcL, jcR, Nat.zero_le, true_and, and_true, and_self, Nat.reduceLeDiff, gI_sI, gI_sL, gI_sR, gL_sI, gL_sL, gL_sR, gR_sI, gR_sL, gR_sR, gS_sI, gS_sL, gS_sR, gN_sI, gN_sL, gN_sR, true_or, or_true, false_or, or_false, Nat.reduceEqDiff, false_and, and_false, if_false, if_true, reduceIte, not_true_eq_false, not_false_eq_true, a1, a2]
  exact ⟨fun _ => K ν2 hI2, fun h => by first | exact False.elim h | exact absurd (lcmp0 _) h⟩
set_option maxRecDepth 100000 in
theorem lk_1 {d i L : Nat} {al : Nat × Nat} {μ : jMem} {Q : jQ} {I : Nat → jMem → Prop} (hSh : jShp I) (R : ∀ L μ, I L μ → jRel d 140 186 [] I L true μ) (hI : I L μ) (hi : i + 8 ≤ L) (hL : L ≤ 4096) (a1 : al.1 ≤ jmC 297) (a2 : al.2 ≤ jmS 297) (K : ∀ ν, I L ν → jR (d + 1) 297 1501 [some (.ref 0), some (.ref 1), some (.ref 133), some (.int (nI i))] [] al ν Q) : jR (d + 1) 297 197 [some (.ref 0), some (.ref 1), some (.ref 133), some (.int (nI i))] [] al μ Q := by
  obtain ⟨h0, h1, h2⟩ := hSh L μ hI
  have v1 : vp_in (nI i + 1) L := by rw [show (nI i + 1 : Int32) = nI (i + 1) from nI_add i 1]; exact vp_in_nI (by omega) (by omega)
  have v2 : vp_in (nI i + 2) L := by rw [show (nI i + 2 : Int32) = nI (i + 2) from nI_add i 2]; exact vp_in_nI (by omega) (by omega)
  have v3 : vp_in (nI i + 3) L := by rw [show (nI i + 3 : Int32) = nI (i + 3) from nI_add i 3]; exact vp_in_nI (by omega) (by omega)
  have v4 : vp_in (nI i + 4) L := by rw [show (nI i + 4 : Int32) = nI (i + 4) from nI_add i 4]; exact vp_in_nI (by omega) (by omega)
  have v5 : vp_in (nI i + 5) L := by rw [show (nI i + 5 : Int32) = nI (i + 5) from nI_add i 5]; exact vp_in_nI (by omega) (by omega)
  have v6 : vp_in (nI i + 6) L := by rw [show (nI i + 6 : Int32) = nI (i + 6) from nI_add i 6]; exact vp_in_nI (by omega) (by omega)
  have v7 : vp_in (nI i + 7) L := by rw [show (nI i + 7 : Int32) = nI (i + 7) from nI_add i 7]; exact vp_in_nI (by omega) (by omega)
  refine b297_197 ?_
  simp only [jx_blk, jx_op, j1i_c, j2i_c, j1l_c, j2l_c, jil_c, j1r_c, jri_c, jrii_c, jril_c, jrl_c, jrr_c, j2i'_c, jdup_i, jdup_r, jdup2_c, jdup2_l, jpo_c, jli, jll, jlr, jat_0, jat_s, jst, jst2, jkill_i, jkill_r, jkill_l, jkill_n, jnone, jgv_0, jgv_1, jgv_2, jgv_3, jrv_s, jput_0, jput_1, jput_2, jput_3, jpop_0, jpop_1, jcl_s, jc1, jc2, jvi, Nat.reduceAdd, jol_i, jol_l, jol_n, List.map_cons, List.map_nil, List.sum_cons, List.sum_nil, jcI, jcL, jcR, Nat.zero_le, true_and, and_true, and_self, Nat.reduceLeDiff, gI_sI, gI_sL, gI_sR, gL_sI, gL_sL, gL_sR, gR_sI, gR_sL, gR_sR, gS_sI, gS_sL, gS_sR, gN_sI, gN_sL, gN_sR, true_or, or_true, false_or, or_false, Nat.reduceEqDiff, false_and, and_false, if_false, if_true, reduceIte, not_true_eq_false, not_false_eq_true, h0, h1, h2, a1, a2, v1, v2, v3, v4, v5, v6, v7]
  refine jC_post (R _ _ hI) ?_
  rintro r ν ⟨hr, hg, hs, h3⟩
  simp only [if_true, if_false, Bool.false_eq_true] at hr
  obtain ⟨x, rfl⟩ := hr
  simp only [jx_blk, jx_op, j1i_c, j2i_c, j1l_c, j2l_c, jil_c, j1r_c, jri_c, jrii_c, jril_c, jrl_c, jrr_c, j2i'_c, jdup_i, jdup_r, jdup2_c, jdup2_l, jpo_c, jli, jll, jlr, jat_0, jat_s, jst, jst2, jkill_i, jkill_r, jkill_l, jkill_n, jnone, jgv_0, jgv_1, jgv_2, jgv_3, jrv_s, jput_0, jput_1, jput_2, jput_3, jpop_0, jpop_1, jcl_s, jc1, jc2, jvi, Nat.reduceAdd, jol_i, jol_l, jol_n, List.map_cons, List.map_nil, List.sum_cons, List.sum_nil, jcI, jcL, jcR, Nat.zero_le, true_and, and_true, and_self, Nat.reduceLeDiff, gI_sI, gI_sL, gI_sR, gL_sI, gL_sL, gL_sR, gR_sI, gR_sL, gR_sR, gS_sI, gS_sL, gS_sR, gN_sI, gN_sL, gN_sR, true_or, or_true, false_or, or_false, Nat.reduceEqDiff, false_and, and_false, if_false, if_true, reduceIte, not_true_eq_false, not_false_eq_true, hs, h0, h1, h2, a1, a2, v1, v2, v3, v4, v5, v6, v7, hg]
  refine jC_post h3 ?_
  rintro r2 ν2 ⟨rfl, hI2⟩
  simp only [jx_blk, jx_op, j1i_c, j2i_c, j1l_c, j2l_c, jil_c, j1r_c, jri_c, jrii_c, jril_c, jrl_c, jrr_c, j2i'_c, jdup_i, jdup_r, jdup2_c, jdup2_l, jpo_c, jli, jll, jlr, jat_0, jat_s, jst, jst2, jkill_i, jkill_r, jkill_l, jkill_n, jnone, jgv_0, jgv_1, jgv_2, jgv_3, jrv_s, jput_0, jput_1, jput_2, jput_3, jpop_0, jpop_1, jcl_s, jc1, jc2, jvi, Nat.reduceAdd, jol_i, jol_l, jol_n, List.map_cons, List.map_nil, List.sum_cons, List.sum_nil, jcI, jcL, jcR, Nat.zero_le, true_and, and_true, and_self, Nat.reduceLeDiff, gI_sI, gI_sL, gI_sR, gL_sI, gL_sL, gL_sR, gR_sI, gR_sL, gR_sR, gS_sI, gS_sL, gS_sR, gN_sI, gN_sL, gN_sR, true_or, or_true, false_or, or_false, Nat.reduceEqDiff, false_and, and_false, if_false, if_true, reduceIte, not_true_eq_false, not_false_eq_true, a1, a2]
  exact ⟨fun _ => K ν2 hI2, fun h => by first | exact False.elim h | exact absurd (lcmp0 _) h⟩
set_option maxRecDepth 100000 in
theorem lk_2 {d i L : Nat} {al : Nat × Nat} {μ : jMem} {Q : jQ} {I : Nat → jMem → Prop} (hSh : jShp I) (R : ∀ L μ, I L μ → jRel d 141 187 [] I L true μ) (hI : I L μ) (hi : i + 8 ≤ L) (hL : L ≤ 4096) (a1 : al.1 ≤ jmC 297) (a2 : al.2 ≤ jmS 297) (K : ∀ ν, I L ν → jR (d + 1) 297 1501 [some (.ref 0), some (.ref 1), some (.ref 133), some (.int (nI i))] [] al ν Q) : jR (d + 1) 297 211 [some (.ref 0), some (.ref 1), some (.ref 133), some (.int (nI i))] [] al μ Q := by
  obtain ⟨h0, h1, h2⟩ := hSh L μ hI
  have v1 : vp_in (nI i + 1) L := by rw [show (nI i + 1 : Int32) = nI (i + 1) from nI_add i 1]; exact vp_in_nI (by omega) (by omega)
  have v2 : vp_in (nI i + 2) L := by rw [show (nI i + 2 : Int32) = nI (i + 2) from nI_add i 2]; exact vp_in_nI (by omega) (by omega)
  have v3 : vp_in (nI i + 3) L := by rw [show (nI i + 3 : Int32) = nI (i + 3) from nI_add i 3]; exact vp_in_nI (by omega) (by omega)
  have v4 : vp_in (nI i + 4) L := by rw [show (nI i + 4 : Int32) = nI (i + 4) from nI_add i 4]; exact vp_in_nI (by omega) (by omega)
  have v5 : vp_in (nI i + 5) L := by rw [show (nI i + 5 : Int32) = nI (i + 5) from nI_add i 5]; exact vp_in_nI (by omega) (by omega)
  have v6 : vp_in (nI i + 6) L := by rw [show (nI i + 6 : Int32) = nI (i + 6) from nI_add i 6]; exact vp_in_nI (by omega) (by omega)
  have v7 : vp_in (nI i + 7) L := by rw [show (nI i + 7 : Int32) = nI (i + 7) from nI_add i 7]; exact vp_in_nI (by omega) (by omega)
  refine b297_211 ?_
  simp only [jx_blk, jx_op, j1i_c, j2i_c, j1l_c, j2l_c, jil_c, j1r_c, jri_c, jrii_c, jril_c, jrl_c, jrr_c, j2i'_c, jdup_i, jdup_r, jdup2_c, jdup2_l, jpo_c, jli, jll, jlr, jat_0, jat_s, jst, jst2, jkill_i, jkill_r, jkill_l, jkill_n, jnone, jgv_0, jgv_1, jgv_2, jgv_3, jrv_s, jput_0, jput_1, jput_2, jput_3, jpop_0, jpop_1, jcl_s, jc1, jc2, jvi, Nat.reduceAdd, jol_i, jol_l, jol_n, List.map_cons, List.map_nil, List.sum_cons, List.sum_nil, jcI, jcL, jcR, Nat.zero_le, true_and, and_true, and_self, Nat.reduceLeDiff, gI_sI, gI_sL, gI_sR, gL_sI, gL_sL, gL_sR, gR_sI, gR_sL, gR_sR, gS_sI, gS_sL, gS_sR, gN_sI, gN_sL, gN_sR, true_or, or_true, false_or, or_false, Nat.reduceEqDiff, false_and, and_false, if_false, if_true, reduceIte, not_true_eq_false, not_false_eq_true, h0, h1, h2, a1, a2, v1, v2, v3, v4, v5, v6, v7]
  refine jC_post (R _ _ hI) ?_
  rintro r ν ⟨hr, hg, hs, h3⟩
  simp only [if_true, if_false, Bool.false_eq_true] at hr
  obtain ⟨x, rfl⟩ := hr
  simp only [jx_blk, jx_op, j1i_c, j2i_c, j1l_c, j2l_c, jil_c, j1r_c, jri_c, jrii_c, jril_c, jrl_c, jrr_c, j2i'_c, jdup_i, jdup_r, jdup2_c, jdup2_l, jpo_c, jli, jll, jlr, jat_0, jat_s, jst, jst2, jkill_i, jkill_r, jkill_l, jkill_n, jnone, jgv_0, jgv_1, jgv_2, jgv_3, jrv_s, jput_0, jput_1, jput_2, jput_3, jpop_0, jpop_1, jcl_s, jc1, jc2, jvi, Nat.reduceAdd, jol_i, jol_l, jol_n, List.map_cons, List.map_nil, List.sum_cons, List.sum_nil, jcI, jcL, jcR, Nat.zero_le, true_and, and_true, and_self, Nat.reduceLeDiff, gI_sI, gI_sL, gI_sR, gL_sI, gL_sL, gL_sR, gR_sI, gR_sL, gR_sR, gS_sI, gS_sL, gS_sR, gN_sI, gN_sL, gN_sR, true_or, or_true, false_or, or_false, Nat.reduceEqDiff, false_and, and_false, if_false, if_true, reduceIte, not_true_eq_false, not_false_eq_true, hs, h0, h1, h2, a1, a2, v1, v2, v3, v4, v5, v6, v7, hg]
  refine jC_post h3 ?_
  rintro r2 ν2 ⟨rfl, hI2⟩
  simp only [jx_blk, jx_op, j1i_c, j2i_c, j1l_c, j2l_c, jil_c, j1r_c, jri_c, jrii_c, jril_c, jrl_c, jrr_c, j2i'_c, jdup_i, jdup_r, jdup2_c, jdup2_l, jpo_c, jli, jll, jlr, jat_0, jat_s, jst, jst2, jkill_i, jkill_r, jkill_l, jkill_n, jnone, jgv_0, jgv_1, jgv_2, jgv_3, jrv_s, jput_0, jput_1, jput_2, jput_3, jpop_0, jpop_1, jcl_s, jc1, jc2, jvi, Nat.reduceAdd, jol_i, jol_l, jol_n, List.map_cons, List.map_nil, List.sum_cons, List.sum_nil, jcI, jcL, jcR, Nat.zero_le, true_and, and_true, and_self, Nat.reduceLeDiff, gI_sI, gI_sL, gI_sR, gL_sI, gL_sL, gL_sR, gR_sI, gR_sL, gR_sR, gS_sI, gS_sL, gS_sR, gN_sI, gN_sL, gN_sR, true_or, or_true, false_or, or_false, Nat.reduceEqDiff, false_and, and_false, if_false, if_true, reduceIte, not_true_eq_false, not_false_eq_true, a1, a2]
  exact ⟨fun _ => K ν2 hI2, fun h => by first | exact False.elim h | exact absurd (lcmp0 _) h⟩
set_option maxRecDepth 100000 in
theorem lk_3 {d i L : Nat} {al : Nat × Nat} {μ : jMem} {Q : jQ} {I : Nat → jMem → Prop} (hSh : jShp I) (R : ∀ L μ (x0 : Int32) (x1 : Int32) (x2 : Int32), I L μ → jRel d 142 194 [.int x0, .int x1, .int x2] I L false μ) (hI : I L μ) (hi : i + 8 ≤ L) (hL : L ≤ 4096) (a1 : al.1 ≤ jmC 297) (a2 : al.2 ≤ jmS 297) (K : ∀ ν, I L ν → jR (d + 1) 297 1501 [some (.ref 0), some (.ref 1), some (.ref 133), some (.int (nI i))] [] al ν Q) : jR (d + 1) 297 225 [some (.ref 0), some (.ref 1), some (.ref 133), some (.int (nI i))] [] al μ Q := by
  obtain ⟨h0, h1, h2⟩ := hSh L μ hI
  have v1 : vp_in (nI i + 1) L := by rw [show (nI i + 1 : Int32) = nI (i + 1) from nI_add i 1]; exact vp_in_nI (by omega) (by omega)
  have v2 : vp_in (nI i + 2) L := by rw [show (nI i + 2 : Int32) = nI (i + 2) from nI_add i 2]; exact vp_in_nI (by omega) (by omega)
  have v3 : vp_in (nI i + 3) L := by rw [show (nI i + 3 : Int32) = nI (i + 3) from nI_add i 3]; exact vp_in_nI (by omega) (by omega)
  have v4 : vp_in (nI i + 4) L := by rw [show (nI i + 4 : Int32) = nI (i + 4) from nI_add i 4]; exact vp_in_nI (by omega) (by omega)
  have v5 : vp_in (nI i + 5) L := by rw [show (nI i + 5 : Int32) = nI (i + 5) from nI_add i 5]; exact vp_in_nI (by omega) (by omega)
  have v6 : vp_in (nI i + 6) L := by rw [show (nI i + 6 : Int32) = nI (i + 6) from nI_add i 6]; exact vp_in_nI (by omega) (by omega)
  have v7 : vp_in (nI i + 7) L := by rw [show (nI i + 7 : Int32) = nI (i + 7) from nI_add i 7]; exact vp_in_nI (by omega) (by omega)
  refine b297_225 ?_
  simp only [jx_blk, jx_op, j1i_c, j2i_c, j1l_c, j2l_c, jil_c, j1r_c, jri_c, jrii_c, jril_c, jrl_c, jrr_c, j2i'_c, jdup_i, jdup_r, jdup2_c, jdup2_l, jpo_c, jli, jll, jlr, jat_0, jat_s, jst, jst2, jkill_i, jkill_r, jkill_l, jkill_n, jnone, jgv_0, jgv_1, jgv_2, jgv_3, jrv_s, jput_0, jput_1, jput_2, jput_3, jpop_0, jpop_1, jcl_s, jc1, jc2, jvi, Nat.reduceAdd, jol_i, jol_l, jol_n, List.map_cons, List.map_nil, List.sum_cons, List.sum_nil, jcI, jcL, jcR, Nat.zero_le, true_and, and_true, and_self, Nat.reduceLeDiff, gI_sI, gI_sL, gI_sR, gL_sI, gL_sL, gL_sR, gR_sI, gR_sL, gR_sR, gS_sI, gS_sL, gS_sR, gN_sI, gN_sL, gN_sR, true_or, or_true, false_or, or_false, Nat.reduceEqDiff, false_and, and_false, if_false, if_true, reduceIte, not_true_eq_false, not_false_eq_true, h0, h1, h2, a1, a2, v1, v2, v3, v4, v5, v6, v7]
  refine jC_post (R _ _ _ _ _ hI) ?_
  rintro r ν ⟨hr, hg, hs, h3⟩
  simp only [if_true, if_false, Bool.false_eq_true] at hr
  obtain ⟨x, rfl⟩ := hr
  simp only [jx_blk, jx_op, j1i_c, j2i_c, j1l_c, j2l_c, jil_c, j1r_c, jri_c, jrii_c, jril_c, jrl_c, jrr_c, j2i'_c, jdup_i, jdup_r, jdup2_c, jdup2_l, jpo_c, jli, jll, jlr, jat_0, jat_s, jst, jst2, jkill_i, jkill_r, jkill_l, jkill_n, jnone, jgv_0, jgv_1, jgv_2, jgv_3, jrv_s, jput_0, jput_1, jput_2, jput_3, jpop_0, jpop_1, jcl_s, jc1, jc2, jvi, Nat.reduceAdd, jol_i, jol_l, jol_n, List.map_cons, List.map_nil, List.sum_cons, List.sum_nil, jcI, jcL, jcR, Nat.zero_le, true_and, and_true, and_self, Nat.reduceLeDiff, gI_sI, gI_sL, gI_sR, gL_sI, gL_sL, gL_sR, gR_sI, gR_sL, gR_sR, gS_sI, gS_sL, gS_sR, gN_sI, gN_sL, gN_sR, true_or, or_true, false_or, or_false, Nat.reduceEqDiff, false_and, and_false, if_false, if_true, reduceIte, not_true_eq_false, not_false_eq_true, hs, h0, h1, h2, a1, a2, v1, v2, v3, v4, v5, v6, v7, hg]
  refine jC_post h3 ?_
  rintro r2 ν2 ⟨rfl, hI2⟩
  simp only [jx_blk, jx_op, j1i_c, j2i_c, j1l_c, j2l_c, jil_c, j1r_c, jri_c, jrii_c, jril_c, jrl_c, jrr_c, j2i'_c, jdup_i, jdup_r, jdup2_c, jdup2_l, jpo_c, jli, jll, jlr, jat_0, jat_s, jst, jst2, jkill_i, jkill_r, jkill_l, jkill_n, jnone, jgv_0, jgv_1, jgv_2, jgv_3, jrv_s, jput_0, jput_1, jput_2, jput_3, jpop_0, jpop_1, jcl_s, jc1, jc2, jvi, Nat.reduceAdd, jol_i, jol_l, jol_n, List.map_cons, List.map_nil, List.sum_cons, List.sum_nil, jcI, jcL, jcR, Nat.zero_le, true_and, and_true, and_self, Nat.reduceLeDiff, gI_sI, gI_sL, gI_sR, gL_sI, gL_sL, gL_sR, gR_sI, gR_sL, gR_sR, gS_sI, gS_sL, gS_sR, gN_sI, gN_sL, gN_sR, true_or, or_true, false_or, or_false, Nat.reduceEqDiff, false_and, and_false, if_false, if_true, reduceIte, not_true_eq_false, not_false_eq_true, a1, a2]
  exact ⟨fun _ => K ν2 hI2, fun h => by first | exact False.elim h | exact absurd (lcmp0 _) h⟩
set_option maxRecDepth 100000 in
theorem lk_4 {d i L : Nat} {al : Nat × Nat} {μ : jMem} {Q : jQ} {I : Nat → jMem → Prop} (hSh : jShp I) (R : ∀ L μ (x0 : Int32) (x1 : Int32) (x2 : Int64), I L μ → jRel d 143 197 [.int x0, .int x1, .long x2] I L false μ) (hI : I L μ) (hi : i + 8 ≤ L) (hL : L ≤ 4096) (a1 : al.1 ≤ jmC 297) (a2 : al.2 ≤ jmS 297) (K : ∀ ν, I L ν → jR (d + 1) 297 1501 [some (.ref 0), some (.ref 1), some (.ref 133), some (.int (nI i))] [] al ν Q) : jR (d + 1) 297 268 [some (.ref 0), some (.ref 1), some (.ref 133), some (.int (nI i))] [] al μ Q := by
  obtain ⟨h0, h1, h2⟩ := hSh L μ hI
  have v1 : vp_in (nI i + 1) L := by rw [show (nI i + 1 : Int32) = nI (i + 1) from nI_add i 1]; exact vp_in_nI (by omega) (by omega)
  have v2 : vp_in (nI i + 2) L := by rw [show (nI i + 2 : Int32) = nI (i + 2) from nI_add i 2]; exact vp_in_nI (by omega) (by omega)
  have v3 : vp_in (nI i + 3) L := by rw [show (nI i + 3 : Int32) = nI (i + 3) from nI_add i 3]; exact vp_in_nI (by omega) (by omega)
  have v4 : vp_in (nI i + 4) L := by rw [show (nI i + 4 : Int32) = nI (i + 4) from nI_add i 4]; exact vp_in_nI (by omega) (by omega)
  have v5 : vp_in (nI i + 5) L := by rw [show (nI i + 5 : Int32) = nI (i + 5) from nI_add i 5]; exact vp_in_nI (by omega) (by omega)
  have v6 : vp_in (nI i + 6) L := by rw [show (nI i + 6 : Int32) = nI (i + 6) from nI_add i 6]; exact vp_in_nI (by omega) (by omega)
  have v7 : vp_in (nI i + 7) L := by rw [show (nI i + 7 : Int32) = nI (i + 7) from nI_add i 7]; exact vp_in_nI (by omega) (by omega)
  refine b297_268 ?_
  simp only [jx_blk, jx_op, j1i_c, j2i_c, j1l_c, j2l_c, jil_c, j1r_c, jri_c, jrii_c, jril_c, jrl_c, jrr_c, j2i'_c, jdup_i, jdup_r, jdup2_c, jdup2_l, jpo_c, jli, jll, jlr, jat_0, jat_s, jst, jst2, jkill_i, jkill_r, jkill_l, jkill_n, jnone, jgv_0, jgv_1, jgv_2, jgv_3, jrv_s, jput_0, jput_1, jput_2, jput_3, jpop_0, jpop_1, jcl_s, jc1, jc2, jvi, Nat.reduceAdd, jol_i, jol_l, jol_n, List.map_cons, List.map_nil, List.sum_cons, List.sum_nil, jcI, jcL, jcR, Nat.zero_le, true_and, and_true, and_self, Nat.reduceLeDiff, gI_sI, gI_sL, gI_sR, gL_sI, gL_sL, gL_sR, gR_sI, gR_sL, gR_sR, gS_sI, gS_sL, gS_sR, gN_sI, gN_sL, gN_sR, true_or, or_true, false_or, or_false, Nat.reduceEqDiff, false_and, and_false, if_false, if_true, reduceIte, not_true_eq_false, not_false_eq_true, h0, h1, h2, a1, a2, v1, v2, v3, v4, v5, v6, v7]
  refine jC_post (R _ _ _ _ _ hI) ?_
  rintro r ν ⟨hr, hg, hs, h3⟩
  simp only [if_true, if_false, Bool.false_eq_true] at hr
  obtain ⟨x, rfl⟩ := hr
  simp only [jx_blk, jx_op, j1i_c, j2i_c, j1l_c, j2l_c, jil_c, j1r_c, jri_c, jrii_c, jril_c, jrl_c, jrr_c, j2i'_c, jdup_i, jdup_r, jdup2_c, jdup2_l, jpo_c, jli, jll, jlr, jat_0, jat_s, jst, jst2, jkill_i, jkill_r, jkill_l, jkill_n, jnone, jgv_0, jgv_1, jgv_2, jgv_3, jrv_s, jput_0, jput_1, jput_2, jput_3, jpop_0, jpop_1, jcl_s, jc1, jc2, jvi, Nat.reduceAdd, jol_i, jol_l, jol_n, List.map_cons, List.map_nil, List.sum_cons, List.sum_nil, jcI, jcL, jcR, Nat.zero_le, true_and, and_true, and_self, Nat.reduceLeDiff, gI_sI, gI_sL, gI_sR, gL_sI, gL_sL, gL_sR, gR_sI, gR_sL, gR_sR, gS_sI, gS_sL, gS_sR, gN_sI, gN_sL, gN_sR, true_or, or_true, false_or, or_false, Nat.reduceEqDiff, false_and, and_false, if_false, if_true, reduceIte, not_true_eq_false, not_false_eq_true, hs, h0, h1, h2, a1, a2, v1, v2, v3, v4, v5, v6, v7, hg]
  refine jC_post h3 ?_
  rintro r2 ν2 ⟨rfl, hI2⟩
  simp only [jx_blk, jx_op, j1i_c, j2i_c, j1l_c, j2l_c, jil_c, j1r_c, jri_c, jrii_c, jril_c, jrl_c, jrr_c, j2i'_c, jdup_i, jdup_r, jdup2_c, jdup2_l, jpo_c, jli, jll, jlr, jat_0, jat_s, jst, jst2, jkill_i, jkill_r, jkill_l, jkill_n, jnone, jgv_0, jgv_1, jgv_2, jgv_3, jrv_s, jput_0, jput_1, jput_2, jput_3, jpop_0, jpop_1, jcl_s, jc1, jc2, jvi, Nat.reduceAdd, jol_i, jol_l, jol_n, List.map_cons, List.map_nil, List.sum_cons, List.sum_nil, jcI, jcL, jcR, Nat.zero_le, true_and, and_true, and_self, Nat.reduceLeDiff, gI_sI, gI_sL, gI_sR, gL_sI, gL_sL, gL_sR, gR_sI, gR_sL, gR_sR, gS_sI, gS_sL, gS_sR, gN_sI, gN_sL, gN_sR, true_or, or_true, false_or, or_false, Nat.reduceEqDiff, false_and, and_false, if_false, if_true, reduceIte, not_true_eq_false, not_false_eq_true, a1, a2]
  exact ⟨fun _ => K ν2 hI2, fun h => by first | exact False.elim h | exact absurd (lcmp0 _) h⟩
set_option maxRecDepth 100000 in
theorem lk_5 {d i L : Nat} {al : Nat × Nat} {μ : jMem} {Q : jQ} {I : Nat → jMem → Prop} (hSh : jShp I) (R : ∀ L μ (x0 : Int32) (x1 : Int32), I L μ → jRel d 144 198 [.int x0, .int x1] I L true μ) (hI : I L μ) (hi : i + 8 ≤ L) (hL : L ≤ 4096) (a1 : al.1 ≤ jmC 297) (a2 : al.2 ≤ jmS 297) (K : ∀ ν, I L ν → jR (d + 1) 297 1501 [some (.ref 0), some (.ref 1), some (.ref 133), some (.int (nI i))] [] al ν Q) : jR (d + 1) 297 341 [some (.ref 0), some (.ref 1), some (.ref 133), some (.int (nI i))] [] al μ Q := by
  obtain ⟨h0, h1, h2⟩ := hSh L μ hI
  have v1 : vp_in (nI i + 1) L := by rw [show (nI i + 1 : Int32) = nI (i + 1) from nI_add i 1]; exact vp_in_nI (by omega) (by omega)
  have v2 : vp_in (nI i + 2) L := by rw [show (nI i + 2 : Int32) = nI (i + 2) from nI_add i 2]; exact vp_in_nI (by omega) (by omega)
  have v3 : vp_in (nI i + 3) L := by rw [show (nI i + 3 : Int32) = nI (i + 3) from nI_add i 3]; exact vp_in_nI (by omega) (by omega)
  have v4 : vp_in (nI i + 4) L := by rw [show (nI i + 4 : Int32) = nI (i + 4) from nI_add i 4]; exact vp_in_nI (by omega) (by omega)
  have v5 : vp_in (nI i + 5) L := by rw [show (nI i + 5 : Int32) = nI (i + 5) from nI_add i 5]; exact vp_in_nI (by omega) (by omega)
  have v6 : vp_in (nI i + 6) L := by rw [show (nI i + 6 : Int32) = nI (i + 6) from nI_add i 6]; exact vp_in_nI (by omega) (by omega)
  have v7 : vp_in (nI i + 7) L := by rw [show (nI i + 7 : Int32) = nI (i + 7) from nI_add i 7]; exact vp_in_nI (by omega) (by omega)
  refine b297_341 ?_
  simp only [jx_blk, jx_op, j1i_c, j2i_c, j1l_c, j2l_c, jil_c, j1r_c, jri_c, jrii_c, jril_c, jrl_c, jrr_c, j2i'_c, jdup_i, jdup_r, jdup2_c, jdup2_l, jpo_c, jli, jll, jlr, jat_0, jat_s, jst, jst2, jkill_i, jkill_r, jkill_l, jkill_n, jnone, jgv_0, jgv_1, jgv_2, jgv_3, jrv_s, jput_0, jput_1, jput_2, jput_3, jpop_0, jpop_1, jcl_s, jc1, jc2, jvi, Nat.reduceAdd, jol_i, jol_l, jol_n, List.map_cons, List.map_nil, List.sum_cons, List.sum_nil, jcI, jcL, jcR, Nat.zero_le, true_and, and_true, and_self, Nat.reduceLeDiff, gI_sI, gI_sL, gI_sR, gL_sI, gL_sL, gL_sR, gR_sI, gR_sL, gR_sR, gS_sI, gS_sL, gS_sR, gN_sI, gN_sL, gN_sR, true_or, or_true, false_or, or_false, Nat.reduceEqDiff, false_and, and_false, if_false, if_true, reduceIte, not_true_eq_false, not_false_eq_true, h0, h1, h2, a1, a2, v1, v2, v3, v4, v5, v6, v7]
  refine jC_post (R _ _ _ _ hI) ?_
  rintro r ν ⟨hr, hg, hs, h3⟩
  simp only [if_true, if_false, Bool.false_eq_true] at hr
  obtain ⟨x, rfl⟩ := hr
  simp only [jx_blk, jx_op, j1i_c, j2i_c, j1l_c, j2l_c, jil_c, j1r_c, jri_c, jrii_c, jril_c, jrl_c, jrr_c, j2i'_c, jdup_i, jdup_r, jdup2_c, jdup2_l, jpo_c, jli, jll, jlr, jat_0, jat_s, jst, jst2, jkill_i, jkill_r, jkill_l, jkill_n, jnone, jgv_0, jgv_1, jgv_2, jgv_3, jrv_s, jput_0, jput_1, jput_2, jput_3, jpop_0, jpop_1, jcl_s, jc1, jc2, jvi, Nat.reduceAdd, jol_i, jol_l, jol_n, List.map_cons, List.map_nil, List.sum_cons, List.sum_nil, jcI, jcL, jcR, Nat.zero_le, true_and, and_true, and_self, Nat.reduceLeDiff, gI_sI, gI_sL, gI_sR, gL_sI, gL_sL, gL_sR, gR_sI, gR_sL, gR_sR, gS_sI, gS_sL, gS_sR, gN_sI, gN_sL, gN_sR, true_or, or_true, false_or, or_false, Nat.reduceEqDiff, false_and, and_false, if_false, if_true, reduceIte, not_true_eq_false, not_false_eq_true, hs, h0, h1, h2, a1, a2, v1, v2, v3, v4, v5, v6, v7, hg]
  refine jC_post h3 ?_
  rintro r2 ν2 ⟨rfl, hI2⟩
  simp only [jx_blk, jx_op, j1i_c, j2i_c, j1l_c, j2l_c, jil_c, j1r_c, jri_c, jrii_c, jril_c, jrl_c, jrr_c, j2i'_c, jdup_i, jdup_r, jdup2_c, jdup2_l, jpo_c, jli, jll, jlr, jat_0, jat_s, jst, jst2, jkill_i, jkill_r, jkill_l, jkill_n, jnone, jgv_0, jgv_1, jgv_2, jgv_3, jrv_s, jput_0, jput_1, jput_2, jput_3, jpop_0, jpop_1, jcl_s, jc1, jc2, jvi, Nat.reduceAdd, jol_i, jol_l, jol_n, List.map_cons, List.map_nil, List.sum_cons, List.sum_nil, jcI, jcL, jcR, Nat.zero_le, true_and, and_true, and_self, Nat.reduceLeDiff, gI_sI, gI_sL, gI_sR, gL_sI, gL_sL, gL_sR, gR_sI, gR_sL, gR_sR, gS_sI, gS_sL, gS_sR, gN_sI, gN_sL, gN_sR, true_or, or_true, false_or, or_false, Nat.reduceEqDiff, false_and, and_false, if_false, if_true, reduceIte, not_true_eq_false, not_false_eq_true, a1, a2]
  exact ⟨fun _ => K ν2 hI2, fun h => by first | exact False.elim h | exact absurd (lcmp0 _) h⟩
set_option maxRecDepth 100000 in
theorem lk_6 {d i L : Nat} {al : Nat × Nat} {μ : jMem} {Q : jQ} {I : Nat → jMem → Prop} (hSh : jShp I) (R : ∀ L μ (x0 : Int32) (x1 : Int32) (x2 : Int32) (x3 : Int32) (x4 : Int32), I L μ → jRel d 145 199 [.int x0, .int x1, .int x2, .int x3, .int x4] I L false μ) (hI : I L μ) (hi : i + 8 ≤ L) (hL : L ≤ 4096) (a1 : al.1 ≤ jmC 297) (a2 : al.2 ≤ jmS 297) (K : ∀ ν, I L ν → jR (d + 1) 297 1501 [some (.ref 0), some (.ref 1), some (.ref 133), some (.int (nI i))] [] al ν Q) : jR (d + 1) 297 375 [some (.ref 0), some (.ref 1), some (.ref 133), some (.int (nI i))] [] al μ Q := by
  obtain ⟨h0, h1, h2⟩ := hSh L μ hI
  have v1 : vp_in (nI i + 1) L := by rw [show (nI i + 1 : Int32) = nI (i + 1) from nI_add i 1]; exact vp_in_nI (by omega) (by omega)
  have v2 : vp_in (nI i + 2) L := by rw [show (nI i + 2 : Int32) = nI (i + 2) from nI_add i 2]; exact vp_in_nI (by omega) (by omega)
  have v3 : vp_in (nI i + 3) L := by rw [show (nI i + 3 : Int32) = nI (i + 3) from nI_add i 3]; exact vp_in_nI (by omega) (by omega)
  have v4 : vp_in (nI i + 4) L := by rw [show (nI i + 4 : Int32) = nI (i + 4) from nI_add i 4]; exact vp_in_nI (by omega) (by omega)
  have v5 : vp_in (nI i + 5) L := by rw [show (nI i + 5 : Int32) = nI (i + 5) from nI_add i 5]; exact vp_in_nI (by omega) (by omega)
  have v6 : vp_in (nI i + 6) L := by rw [show (nI i + 6 : Int32) = nI (i + 6) from nI_add i 6]; exact vp_in_nI (by omega) (by omega)
  have v7 : vp_in (nI i + 7) L := by rw [show (nI i + 7 : Int32) = nI (i + 7) from nI_add i 7]; exact vp_in_nI (by omega) (by omega)
  refine b297_375 ?_
  simp only [jx_blk, jx_op, j1i_c, j2i_c, j1l_c, j2l_c, jil_c, j1r_c, jri_c, jrii_c, jril_c, jrl_c, jrr_c, j2i'_c, jdup_i, jdup_r, jdup2_c, jdup2_l, jpo_c, jli, jll, jlr, jat_0, jat_s, jst, jst2, jkill_i, jkill_r, jkill_l, jkill_n, jnone, jgv_0, jgv_1, jgv_2, jgv_3, jrv_s, jput_0, jput_1, jput_2, jput_3, jpop_0, jpop_1, jcl_s, jc1, jc2, jvi, Nat.reduceAdd, jol_i, jol_l, jol_n, List.map_cons, List.map_nil, List.sum_cons, List.sum_nil, jcI, jcL, jcR, Nat.zero_le, true_and, and_true, and_self, Nat.reduceLeDiff, gI_sI, gI_sL, gI_sR, gL_sI, gL_sL, gL_sR, gR_sI, gR_sL, gR_sR, gS_sI, gS_sL, gS_sR, gN_sI, gN_sL, gN_sR, true_or, or_true, false_or, or_false, Nat.reduceEqDiff, false_and, and_false, if_false, if_true, reduceIte, not_true_eq_false, not_false_eq_true, h0, h1, h2, a1, a2, v1, v2, v3, v4, v5, v6, v7]
  refine jC_post (R _ _ _ _ _ _ _ hI) ?_
  rintro r ν ⟨hr, hg, hs, h3⟩
  simp only [if_true, if_false, Bool.false_eq_true] at hr
  obtain ⟨x, rfl⟩ := hr
  simp only [jx_blk, jx_op, j1i_c, j2i_c, j1l_c, j2l_c, jil_c, j1r_c, jri_c, jrii_c, jril_c, jrl_c, jrr_c, j2i'_c, jdup_i, jdup_r, jdup2_c, jdup2_l, jpo_c, jli, jll, jlr, jat_0, jat_s, jst, jst2, jkill_i, jkill_r, jkill_l, jkill_n, jnone, jgv_0, jgv_1, jgv_2, jgv_3, jrv_s, jput_0, jput_1, jput_2, jput_3, jpop_0, jpop_1, jcl_s, jc1, jc2, jvi, Nat.reduceAdd, jol_i, jol_l, jol_n, List.map_cons, List.map_nil, List.sum_cons, List.sum_nil, jcI, jcL, jcR, Nat.zero_le, true_and, and_true, and_self, Nat.reduceLeDiff, gI_sI, gI_sL, gI_sR, gL_sI, gL_sL, gL_sR, gR_sI, gR_sL, gR_sR, gS_sI, gS_sL, gS_sR, gN_sI, gN_sL, gN_sR, true_or, or_true, false_or, or_false, Nat.reduceEqDiff, false_and, and_false, if_false, if_true, reduceIte, not_true_eq_false, not_false_eq_true, hs, h0, h1, h2, a1, a2, v1, v2, v3, v4, v5, v6, v7, hg]
  refine jC_post h3 ?_
  rintro r2 ν2 ⟨rfl, hI2⟩
  simp only [jx_blk, jx_op, j1i_c, j2i_c, j1l_c, j2l_c, jil_c, j1r_c, jri_c, jrii_c, jril_c, jrl_c, jrr_c, j2i'_c, jdup_i, jdup_r, jdup2_c, jdup2_l, jpo_c, jli, jll, jlr, jat_0, jat_s, jst, jst2, jkill_i, jkill_r, jkill_l, jkill_n, jnone, jgv_0, jgv_1, jgv_2, jgv_3, jrv_s, jput_0, jput_1, jput_2, jput_3, jpop_0, jpop_1, jcl_s, jc1, jc2, jvi, Nat.reduceAdd, jol_i, jol_l, jol_n, List.map_cons, List.map_nil, List.sum_cons, List.sum_nil, jcI, jcL, jcR, Nat.zero_le, true_and, and_true, and_self, Nat.reduceLeDiff, gI_sI, gI_sL, gI_sR, gL_sI, gL_sL, gL_sR, gR_sI, gR_sL, gR_sR, gS_sI, gS_sL, gS_sR, gN_sI, gN_sL, gN_sR, true_or, or_true, false_or, or_false, Nat.reduceEqDiff, false_and, and_false, if_false, if_true, reduceIte, not_true_eq_false, not_false_eq_true, a1, a2]
  exact ⟨fun _ => K ν2 hI2, fun h => by first | exact False.elim h | exact absurd (lcmp0 _) h⟩
set_option maxRecDepth 100000 in
theorem lk_7 {d i L : Nat} {al : Nat × Nat} {μ : jMem} {Q : jQ} {I : Nat → jMem → Prop} (hSh : jShp I) (R : ∀ L μ (x0 : Int32) (x1 : Int32) (x2 : Int32) (x3 : Int32) (x4 : Int32), I L μ → jRel d 146 224 [.int x0, .int x1, .int x2, .int x3, .int x4] I L false μ) (hI : I L μ) (hi : i + 8 ≤ L) (hL : L ≤ 4096) (a1 : al.1 ≤ jmC 297) (a2 : al.2 ≤ jmS 297) (K : ∀ ν, I L ν → jR (d + 1) 297 1501 [some (.ref 0), some (.ref 1), some (.ref 133), some (.int (nI i))] [] al ν Q) : jR (d + 1) 297 438 [some (.ref 0), some (.ref 1), some (.ref 133), some (.int (nI i))] [] al μ Q := by
  obtain ⟨h0, h1, h2⟩ := hSh L μ hI
  have v1 : vp_in (nI i + 1) L := by rw [show (nI i + 1 : Int32) = nI (i + 1) from nI_add i 1]; exact vp_in_nI (by omega) (by omega)
  have v2 : vp_in (nI i + 2) L := by rw [show (nI i + 2 : Int32) = nI (i + 2) from nI_add i 2]; exact vp_in_nI (by omega) (by omega)
  have v3 : vp_in (nI i + 3) L := by rw [show (nI i + 3 : Int32) = nI (i + 3) from nI_add i 3]; exact vp_in_nI (by omega) (by omega)
  have v4 : vp_in (nI i + 4) L := by rw [show (nI i + 4 : Int32) = nI (i + 4) from nI_add i 4]; exact vp_in_nI (by omega) (by omega)
  have v5 : vp_in (nI i + 5) L := by rw [show (nI i + 5 : Int32) = nI (i + 5) from nI_add i 5]; exact vp_in_nI (by omega) (by omega)
  have v6 : vp_in (nI i + 6) L := by rw [show (nI i + 6 : Int32) = nI (i + 6) from nI_add i 6]; exact vp_in_nI (by omega) (by omega)
  have v7 : vp_in (nI i + 7) L := by rw [show (nI i + 7 : Int32) = nI (i + 7) from nI_add i 7]; exact vp_in_nI (by omega) (by omega)
  refine b297_438 ?_
  simp only [jx_blk, jx_op, j1i_c, j2i_c, j1l_c, j2l_c, jil_c, j1r_c, jri_c, jrii_c, jril_c, jrl_c, jrr_c, j2i'_c, jdup_i, jdup_r, jdup2_c, jdup2_l, jpo_c, jli, jll, jlr, jat_0, jat_s, jst, jst2, jkill_i, jkill_r, jkill_l, jkill_n, jnone, jgv_0, jgv_1, jgv_2, jgv_3, jrv_s, jput_0, jput_1, jput_2, jput_3, jpop_0, jpop_1, jcl_s, jc1, jc2, jvi, Nat.reduceAdd, jol_i, jol_l, jol_n, List.map_cons, List.map_nil, List.sum_cons, List.sum_nil, jcI, jcL, jcR, Nat.zero_le, true_and, and_true, and_self, Nat.reduceLeDiff, gI_sI, gI_sL, gI_sR, gL_sI, gL_sL, gL_sR, gR_sI, gR_sL, gR_sR, gS_sI, gS_sL, gS_sR, gN_sI, gN_sL, gN_sR, true_or, or_true, false_or, or_false, Nat.reduceEqDiff, false_and, and_false, if_false, if_true, reduceIte, not_true_eq_false, not_false_eq_true, h0, h1, h2, a1, a2, v1, v2, v3, v4, v5, v6, v7]
  refine jC_post (R _ _ _ _ _ _ _ hI) ?_
  rintro r ν ⟨hr, hg, hs, h3⟩
  simp only [if_true, if_false, Bool.false_eq_true] at hr
  obtain ⟨x, rfl⟩ := hr
  simp only [jx_blk, jx_op, j1i_c, j2i_c, j1l_c, j2l_c, jil_c, j1r_c, jri_c, jrii_c, jril_c, jrl_c, jrr_c, j2i'_c, jdup_i, jdup_r, jdup2_c, jdup2_l, jpo_c, jli, jll, jlr, jat_0, jat_s, jst, jst2, jkill_i, jkill_r, jkill_l, jkill_n, jnone, jgv_0, jgv_1, jgv_2, jgv_3, jrv_s, jput_0, jput_1, jput_2, jput_3, jpop_0, jpop_1, jcl_s, jc1, jc2, jvi, Nat.reduceAdd, jol_i, jol_l, jol_n, List.map_cons, List.map_nil, List.sum_cons, List.sum_nil, jcI, jcL, jcR, Nat.zero_le, true_and, and_true, and_self, Nat.reduceLeDiff, gI_sI, gI_sL, gI_sR, gL_sI, gL_sL, gL_sR, gR_sI, gR_sL, gR_sR, gS_sI, gS_sL, gS_sR, gN_sI, gN_sL, gN_sR, true_or, or_true, false_or, or_false, Nat.reduceEqDiff, false_and, and_false, if_false, if_true, reduceIte, not_true_eq_false, not_false_eq_true, hs, h0, h1, h2, a1, a2, v1, v2, v3, v4, v5, v6, v7, hg]
  refine jC_post h3 ?_
  rintro r2 ν2 ⟨rfl, hI2⟩
  simp only [jx_blk, jx_op, j1i_c, j2i_c, j1l_c, j2l_c, jil_c, j1r_c, jri_c, jrii_c, jril_c, jrl_c, jrr_c, j2i'_c, jdup_i, jdup_r, jdup2_c, jdup2_l, jpo_c, jli, jll, jlr, jat_0, jat_s, jst, jst2, jkill_i, jkill_r, jkill_l, jkill_n, jnone, jgv_0, jgv_1, jgv_2, jgv_3, jrv_s, jput_0, jput_1, jput_2, jput_3, jpop_0, jpop_1, jcl_s, jc1, jc2, jvi, Nat.reduceAdd, jol_i, jol_l, jol_n, List.map_cons, List.map_nil, List.sum_cons, List.sum_nil, jcI, jcL, jcR, Nat.zero_le, true_and, and_true, and_self, Nat.reduceLeDiff, gI_sI, gI_sL, gI_sR, gL_sI, gL_sL, gL_sR, gR_sI, gR_sL, gR_sR, gS_sI, gS_sL, gS_sR, gN_sI, gN_sL, gN_sR, true_or, or_true, false_or, or_false, Nat.reduceEqDiff, false_and, and_false, if_false, if_true, reduceIte, not_true_eq_false, not_false_eq_true, a1, a2]
  exact ⟨fun _ => K ν2 hI2, fun h => by first | exact False.elim h | exact absurd (lcmp0 _) h⟩
set_option maxRecDepth 100000 in
theorem lk_8 {d i L : Nat} {al : Nat × Nat} {μ : jMem} {Q : jQ} {I : Nat → jMem → Prop} (hSh : jShp I) (R : ∀ L μ (x0 : Int32), I L μ → jRel d 147 226 [.int x0] I L false μ) (hI : I L μ) (hi : i + 8 ≤ L) (hL : L ≤ 4096) (a1 : al.1 ≤ jmC 297) (a2 : al.2 ≤ jmS 297) (K : ∀ ν, I L ν → jR (d + 1) 297 1501 [some (.ref 0), some (.ref 1), some (.ref 133), some (.int (nI i))] [] al ν Q) : jR (d + 1) 297 501 [some (.ref 0), some (.ref 1), some (.ref 133), some (.int (nI i))] [] al μ Q := by
  obtain ⟨h0, h1, h2⟩ := hSh L μ hI
  have v1 : vp_in (nI i + 1) L := by rw [show (nI i + 1 : Int32) = nI (i + 1) from nI_add i 1]; exact vp_in_nI (by omega) (by omega)
  have v2 : vp_in (nI i + 2) L := by rw [show (nI i + 2 : Int32) = nI (i + 2) from nI_add i 2]; exact vp_in_nI (by omega) (by omega)
  have v3 : vp_in (nI i + 3) L := by rw [show (nI i + 3 : Int32) = nI (i + 3) from nI_add i 3]; exact vp_in_nI (by omega) (by omega)
  have v4 : vp_in (nI i + 4) L := by rw [show (nI i + 4 : Int32) = nI (i + 4) from nI_add i 4]; exact vp_in_nI (by omega) (by omega)
  have v5 : vp_in (nI i + 5) L := by rw [show (nI i + 5 : Int32) = nI (i + 5) from nI_add i 5]; exact vp_in_nI (by omega) (by omega)
  have v6 : vp_in (nI i + 6) L := by rw [show (nI i + 6 : Int32) = nI (i + 6) from nI_add i 6]; exact vp_in_nI (by omega) (by omega)
  have v7 : vp_in (nI i + 7) L := by rw [show (nI i + 7 : Int32) = nI (i + 7) from nI_add i 7]; exact vp_in_nI (by omega) (by omega)
  refine b297_501 ?_
  simp only [jx_blk, jx_op, j1i_c, j2i_c, j1l_c, j2l_c, jil_c, j1r_c, jri_c, jrii_c, jril_c, jrl_c, jrr_c, j2i'_c, jdup_i, jdup_r, jdup2_c, jdup2_l, jpo_c, jli, jll, jlr, jat_0, jat_s, jst, jst2, jkill_i, jkill_r, jkill_l, jkill_n, jnone, jgv_0, jgv_1, jgv_2, jgv_3, jrv_s, jput_0, jput_1, jput_2, jput_3, jpop_0, jpop_1, jcl_s, jc1, jc2, jvi, Nat.reduceAdd, jol_i, jol_l, jol_n, List.map_cons, List.map_nil, List.sum_cons, List.sum_nil, jcI, jcL, jcR, Nat.zero_le, true_and, and_true, and_self, Nat.reduceLeDiff, gI_sI, gI_sL, gI_sR, gL_sI, gL_sL, gL_sR, gR_sI, gR_sL, gR_sR, gS_sI, gS_sL, gS_sR, gN_sI, gN_sL, gN_sR, true_or, or_true, false_or, or_false, Nat.reduceEqDiff, false_and, and_false, if_false, if_true, reduceIte, not_true_eq_false, not_false_eq_true, h0, h1, h2, a1, a2, v1, v2, v3, v4, v5, v6, v7]
  refine jC_post (R _ _ _ hI) ?_
  rintro r ν ⟨hr, hg, hs, h3⟩
  simp only [if_true, if_false, Bool.false_eq_true] at hr
  obtain ⟨x, rfl⟩ := hr
  simp only [jx_blk, jx_op, j1i_c, j2i_c, j1l_c, j2l_c, jil_c, j1r_c, jri_c, jrii_c, jril_c, jrl_c, jrr_c, j2i'_c, jdup_i, jdup_r, jdup2_c, jdup2_l, jpo_c, jli, jll, jlr, jat_0, jat_s, jst, jst2, jkill_i, jkill_r, jkill_l, jkill_n, jnone, jgv_0, jgv_1, jgv_2, jgv_3, jrv_s, jput_0, jput_1, jput_2, jput_3, jpop_0, jpop_1, jcl_s, jc1, jc2, jvi, Nat.reduceAdd, jol_i, jol_l, jol_n, List.map_cons, List.map_nil, List.sum_cons, List.sum_nil, jcI, jcL, jcR, Nat.zero_le, true_and, and_true, and_self, Nat.reduceLeDiff, gI_sI, gI_sL, gI_sR, gL_sI, gL_sL, gL_sR, gR_sI, gR_sL, gR_sR, gS_sI, gS_sL, gS_sR, gN_sI, gN_sL, gN_sR, true_or, or_true, false_or, or_false, Nat.reduceEqDiff, false_and, and_false, if_false, if_true, reduceIte, not_true_eq_false, not_false_eq_true, hs, h0, h1, h2, a1, a2, v1, v2, v3, v4, v5, v6, v7, hg]
  refine jC_post h3 ?_
  rintro r2 ν2 ⟨rfl, hI2⟩
  simp only [jx_blk, jx_op, j1i_c, j2i_c, j1l_c, j2l_c, jil_c, j1r_c, jri_c, jrii_c, jril_c, jrl_c, jrr_c, j2i'_c, jdup_i, jdup_r, jdup2_c, jdup2_l, jpo_c, jli, jll, jlr, jat_0, jat_s, jst, jst2, jkill_i, jkill_r, jkill_l, jkill_n, jnone, jgv_0, jgv_1, jgv_2, jgv_3, jrv_s, jput_0, jput_1, jput_2, jput_3, jpop_0, jpop_1, jcl_s, jc1, jc2, jvi, Nat.reduceAdd, jol_i, jol_l, jol_n, List.map_cons, List.map_nil, List.sum_cons, List.sum_nil, jcI, jcL, jcR, Nat.zero_le, true_and, and_true, and_self, Nat.reduceLeDiff, gI_sI, gI_sL, gI_sR, gL_sI, gL_sL, gL_sR, gR_sI, gR_sL, gR_sR, gS_sI, gS_sL, gS_sR, gN_sI, gN_sL, gN_sR, true_or, or_true, false_or, or_false, Nat.reduceEqDiff, false_and, and_false, if_false, if_true, reduceIte, not_true_eq_false, not_false_eq_true, a1, a2]
  exact ⟨fun _ => K ν2 hI2, fun h => by first | exact False.elim h | exact absurd (lcmp0 _) h⟩
set_option maxRecDepth 100000 in
theorem lk_9 {d i L : Nat} {al : Nat × Nat} {μ : jMem} {Q : jQ} {I : Nat → jMem → Prop} (hSh : jShp I) (R : ∀ L μ (x0 : Int32), I L μ → jRel d 148 228 [.int x0] I L false μ) (hI : I L μ) (hi : i + 8 ≤ L) (hL : L ≤ 4096) (a1 : al.1 ≤ jmC 297) (a2 : al.2 ≤ jmS 297) (K : ∀ ν, I L ν → jR (d + 1) 297 1501 [some (.ref 0), some (.ref 1), some (.ref 133), some (.int (nI i))] [] al ν Q) : jR (d + 1) 297 524 [some (.ref 0), some (.ref 1), some (.ref 133), some (.int (nI i))] [] al μ Q := by
  obtain ⟨h0, h1, h2⟩ := hSh L μ hI
  have v1 : vp_in (nI i + 1) L := by rw [show (nI i + 1 : Int32) = nI (i + 1) from nI_add i 1]; exact vp_in_nI (by omega) (by omega)
  have v2 : vp_in (nI i + 2) L := by rw [show (nI i + 2 : Int32) = nI (i + 2) from nI_add i 2]; exact vp_in_nI (by omega) (by omega)
  have v3 : vp_in (nI i + 3) L := by rw [show (nI i + 3 : Int32) = nI (i + 3) from nI_add i 3]; exact vp_in_nI (by omega) (by omega)
  have v4 : vp_in (nI i + 4) L := by rw [show (nI i + 4 : Int32) = nI (i + 4) from nI_add i 4]; exact vp_in_nI (by omega) (by omega)
  have v5 : vp_in (nI i + 5) L := by rw [show (nI i + 5 : Int32) = nI (i + 5) from nI_add i 5]; exact vp_in_nI (by omega) (by omega)
  have v6 : vp_in (nI i + 6) L := by rw [show (nI i + 6 : Int32) = nI (i + 6) from nI_add i 6]; exact vp_in_nI (by omega) (by omega)
  have v7 : vp_in (nI i + 7) L := by rw [show (nI i + 7 : Int32) = nI (i + 7) from nI_add i 7]; exact vp_in_nI (by omega) (by omega)
  refine b297_524 ?_
  simp only [jx_blk, jx_op, j1i_c, j2i_c, j1l_c, j2l_c, jil_c, j1r_c, jri_c, jrii_c, jril_c, jrl_c, jrr_c, j2i'_c, jdup_i, jdup_r, jdup2_c, jdup2_l, jpo_c, jli, jll, jlr, jat_0, jat_s, jst, jst2, jkill_i, jkill_r, jkill_l, jkill_n, jnone, jgv_0, jgv_1, jgv_2, jgv_3, jrv_s, jput_0, jput_1, jput_2, jput_3, jpop_0, jpop_1, jcl_s, jc1, jc2, jvi, Nat.reduceAdd, jol_i, jol_l, jol_n, List.map_cons, List.map_nil, List.sum_cons, List.sum_nil, jcI, jcL, jcR, Nat.zero_le, true_and, and_true, and_self, Nat.reduceLeDiff, gI_sI, gI_sL, gI_sR, gL_sI, gL_sL, gL_sR, gR_sI, gR_sL, gR_sR, gS_sI, gS_sL, gS_sR, gN_sI, gN_sL, gN_sR, true_or, or_true, false_or, or_false, Nat.reduceEqDiff, false_and, and_false, if_false, if_true, reduceIte, not_true_eq_false, not_false_eq_true, h0, h1, h2, a1, a2, v1, v2, v3, v4, v5, v6, v7]
  refine jC_post (R _ _ _ hI) ?_
  rintro r ν ⟨hr, hg, hs, h3⟩
  simp only [if_true, if_false, Bool.false_eq_true] at hr
  obtain ⟨x, rfl⟩ := hr
  simp only [jx_blk, jx_op, j1i_c, j2i_c, j1l_c, j2l_c, jil_c, j1r_c, jri_c, jrii_c, jril_c, jrl_c, jrr_c, j2i'_c, jdup_i, jdup_r, jdup2_c, jdup2_l, jpo_c, jli, jll, jlr, jat_0, jat_s, jst, jst2, jkill_i, jkill_r, jkill_l, jkill_n, jnone, jgv_0, jgv_1, jgv_2, jgv_3, jrv_s, jput_0, jput_1, jput_2, jput_3, jpop_0, jpop_1, jcl_s, jc1, jc2, jvi, Nat.reduceAdd, jol_i, jol_l, jol_n, List.map_cons, List.map_nil, List.sum_cons, List.sum_nil, jcI, jcL, jcR, Nat.zero_le, true_and, and_true, and_self, Nat.reduceLeDiff, gI_sI, gI_sL, gI_sR, gL_sI, gL_sL, gL_sR, gR_sI, gR_sL, gR_sR, gS_sI, gS_sL, gS_sR, gN_sI, gN_sL, gN_sR, true_or, or_true, false_or, or_false, Nat.reduceEqDiff, false_and, and_false, if_false, if_true, reduceIte, not_true_eq_false, not_false_eq_true, hs, h0, h1, h2, a1, a2, v1, v2, v3, v4, v5, v6, v7, hg]
  refine jC_post h3 ?_
  rintro r2 ν2 ⟨rfl, hI2⟩
  simp only [jx_blk, jx_op, j1i_c, j2i_c, j1l_c, j2l_c, jil_c, j1r_c, jri_c, jrii_c, jril_c, jrl_c, jrr_c, j2i'_c, jdup_i, jdup_r, jdup2_c, jdup2_l, jpo_c, jli, jll, jlr, jat_0, jat_s, jst, jst2, jkill_i, jkill_r, jkill_l, jkill_n, jnone, jgv_0, jgv_1, jgv_2, jgv_3, jrv_s, jput_0, jput_1, jput_2, jput_3, jpop_0, jpop_1, jcl_s, jc1, jc2, jvi, Nat.reduceAdd, jol_i, jol_l, jol_n, List.map_cons, List.map_nil, List.sum_cons, List.sum_nil, jcI, jcL, jcR, Nat.zero_le, true_and, and_true, and_self, Nat.reduceLeDiff, gI_sI, gI_sL, gI_sR, gL_sI, gL_sL, gL_sR, gR_sI, gR_sL, gR_sR, gS_sI, gS_sL, gS_sR, gN_sI, gN_sL, gN_sR, true_or, or_true, false_or, or_false, Nat.reduceEqDiff, false_and, and_false, if_false, if_true, reduceIte, not_true_eq_false, not_false_eq_true, a1, a2]
  exact ⟨fun _ => K ν2 hI2, fun h => by first | exact False.elim h | exact absurd (lcmp0 _) h⟩
set_option maxRecDepth 100000 in
theorem lk_10 {d i L : Nat} {al : Nat × Nat} {μ : jMem} {Q : jQ} {I : Nat → jMem → Prop} (hSh : jShp I) (R : ∀ L μ (x0 : Int32), I L μ → jRel d 149 236 [.int x0] I L false μ) (hI : I L μ) (hi : i + 8 ≤ L) (hL : L ≤ 4096) (a1 : al.1 ≤ jmC 297) (a2 : al.2 ≤ jmS 297) (K : ∀ ν, I L ν → jR (d + 1) 297 1501 [some (.ref 0), some (.ref 1), some (.ref 133), some (.int (nI i))] [] al ν Q) : jR (d + 1) 297 547 [some (.ref 0), some (.ref 1), some (.ref 133), some (.int (nI i))] [] al μ Q := by
  obtain ⟨h0, h1, h2⟩ := hSh L μ hI
  have v1 : vp_in (nI i + 1) L := by rw [show (nI i + 1 : Int32) = nI (i + 1) from nI_add i 1]; exact vp_in_nI (by omega) (by omega)
  have v2 : vp_in (nI i + 2) L := by rw [show (nI i + 2 : Int32) = nI (i + 2) from nI_add i 2]; exact vp_in_nI (by omega) (by omega)
  have v3 : vp_in (nI i + 3) L := by rw [show (nI i + 3 : Int32) = nI (i + 3) from nI_add i 3]; exact vp_in_nI (by omega) (by omega)
  have v4 : vp_in (nI i + 4) L := by rw [show (nI i + 4 : Int32) = nI (i + 4) from nI_add i 4]; exact vp_in_nI (by omega) (by omega)
  have v5 : vp_in (nI i + 5) L := by rw [show (nI i + 5 : Int32) = nI (i + 5) from nI_add i 5]; exact vp_in_nI (by omega) (by omega)
  have v6 : vp_in (nI i + 6) L := by rw [show (nI i + 6 : Int32) = nI (i + 6) from nI_add i 6]; exact vp_in_nI (by omega) (by omega)
  have v7 : vp_in (nI i + 7) L := by rw [show (nI i + 7 : Int32) = nI (i + 7) from nI_add i 7]; exact vp_in_nI (by omega) (by omega)
  refine b297_547 ?_
  simp only [jx_blk, jx_op, j1i_c, j2i_c, j1l_c, j2l_c, jil_c, j1r_c, jri_c, jrii_c, jril_c, jrl_c, jrr_c, j2i'_c, jdup_i, jdup_r, jdup2_c, jdup2_l, jpo_c, jli, jll, jlr, jat_0, jat_s, jst, jst2, jkill_i, jkill_r, jkill_l, jkill_n, jnone, jgv_0, jgv_1, jgv_2, jgv_3, jrv_s, jput_0, jput_1, jput_2, jput_3, jpop_0, jpop_1, jcl_s, jc1, jc2, jvi, Nat.reduceAdd, jol_i, jol_l, jol_n, List.map_cons, List.map_nil, List.sum_cons, List.sum_nil, jcI, jcL, jcR, Nat.zero_le, true_and, and_true, and_self, Nat.reduceLeDiff, gI_sI, gI_sL, gI_sR, gL_sI, gL_sL, gL_sR, gR_sI, gR_sL, gR_sR, gS_sI, gS_sL, gS_sR, gN_sI, gN_sL, gN_sR, true_or, or_true, false_or, or_false, Nat.reduceEqDiff, false_and, and_false, if_false, if_true, reduceIte, not_true_eq_false, not_false_eq_true, h0, h1, h2, a1, a2, v1, v2, v3, v4, v5, v6, v7]
  refine jC_post (R _ _ _ hI) ?_
  rintro r ν ⟨hr, hg, hs, h3⟩
  simp only [if_true, if_false, Bool.false_eq_true] at hr
  obtain ⟨x, rfl⟩ := hr
  simp only [jx_blk, jx_op, j1i_c, j2i_c, j1l_c, j2l_c, jil_c, j1r_c, jri_c, jrii_c, jril_c, jrl_c, jrr_c, j2i'_c, jdup_i, jdup_r, jdup2_c, jdup2_l, jpo_c, jli, jll, jlr, jat_0, jat_s, jst, jst2, jkill_i, jkill_r, jkill_l, jkill_n, jnone, jgv_0, jgv_1, jgv_2, jgv_3, jrv_s, jput_0, jput_1, jput_2, jput_3, jpop_0, jpop_1, jcl_s, jc1, jc2, jvi, Nat.reduceAdd, jol_i, jol_l, jol_n, List.map_cons, List.map_nil, List.sum_cons, List.sum_nil, jcI, jcL, jcR, Nat.zero_le, true_and, and_true, and_self, Nat.reduceLeDiff, gI_sI, gI_sL, gI_sR, gL_sI, gL_sL, gL_sR, gR_sI, gR_sL, gR_sR, gS_sI, gS_sL, gS_sR, gN_sI, gN_sL, gN_sR, true_or, or_true, false_or, or_false, Nat.reduceEqDiff, false_and, and_false, if_false, if_true, reduceIte, not_true_eq_false, not_false_eq_true, hs, h0, h1, h2, a1, a2, v1, v2, v3, v4, v5, v6, v7, hg]
  refine jC_post h3 ?_
  rintro r2 ν2 ⟨rfl, hI2⟩
  simp only [jx_blk, jx_op, j1i_c, j2i_c, j1l_c, j2l_c, jil_c, j1r_c, jri_c, jrii_c, jril_c, jrl_c, jrr_c, j2i'_c, jdup_i, jdup_r, jdup2_c, jdup2_l, jpo_c, jli, jll, jlr, jat_0, jat_s, jst, jst2, jkill_i, jkill_r, jkill_l, jkill_n, jnone, jgv_0, jgv_1, jgv_2, jgv_3, jrv_s, jput_0, jput_1, jput_2, jput_3, jpop_0, jpop_1, jcl_s, jc1, jc2, jvi, Nat.reduceAdd, jol_i, jol_l, jol_n, List.map_cons, List.map_nil, List.sum_cons, List.sum_nil, jcI, jcL, jcR, Nat.zero_le, true_and, and_true, and_self, Nat.reduceLeDiff, gI_sI, gI_sL, gI_sR, gL_sI, gL_sL, gL_sR, gR_sI, gR_sL, gR_sR, gS_sI, gS_sL, gS_sR, gN_sI, gN_sL, gN_sR, true_or, or_true, false_or, or_false, Nat.reduceEqDiff, false_and, and_false, if_false, if_true, reduceIte, not_true_eq_false, not_false_eq_true, a1, a2]
  exact ⟨fun _ => K ν2 hI2, fun h => by first | exact False.elim h | exact absurd (lcmp0 _) h⟩
set_option maxRecDepth 100000 in
theorem lk_11 {d i L : Nat} {al : Nat × Nat} {μ : jMem} {Q : jQ} {I : Nat → jMem → Prop} (hSh : jShp I) (R : ∀ L μ (x0 : Int32) (x1 : Int32), I L μ → jRel d 150 237 [.int x0, .int x1] I L false μ) (hI : I L μ) (hi : i + 8 ≤ L) (hL : L ≤ 4096) (a1 : al.1 ≤ jmC 297) (a2 : al.2 ≤ jmS 297) (K : ∀ ν, I L ν → jR (d + 1) 297 1501 [some (.ref 0), some (.ref 1), some (.ref 133), some (.int (nI i))] [] al ν Q) : jR (d + 1) 297 570 [some (.ref 0), some (.ref 1), some (.ref 133), some (.int (nI i))] [] al μ Q := by
  obtain ⟨h0, h1, h2⟩ := hSh L μ hI
  have v1 : vp_in (nI i + 1) L := by rw [show (nI i + 1 : Int32) = nI (i + 1) from nI_add i 1]; exact vp_in_nI (by omega) (by omega)
  have v2 : vp_in (nI i + 2) L := by rw [show (nI i + 2 : Int32) = nI (i + 2) from nI_add i 2]; exact vp_in_nI (by omega) (by omega)
  have v3 : vp_in (nI i + 3) L := by rw [show (nI i + 3 : Int32) = nI (i + 3) from nI_add i 3]; exact vp_in_nI (by omega) (by omega)
  have v4 : vp_in (nI i + 4) L := by rw [show (nI i + 4 : Int32) = nI (i + 4) from nI_add i 4]; exact vp_in_nI (by omega) (by omega)
  have v5 : vp_in (nI i + 5) L := by rw [show (nI i + 5 : Int32) = nI (i + 5) from nI_add i 5]; exact vp_in_nI (by omega) (by omega)
  have v6 : vp_in (nI i + 6) L := by rw [show (nI i + 6 : Int32) = nI (i + 6) from nI_add i 6]; exact vp_in_nI (by omega) (by omega)
  have v7 : vp_in (nI i + 7) L := by rw [show (nI i + 7 : Int32) = nI (i + 7) from nI_add i 7]; exact vp_in_nI (by omega) (by omega)
  refine b297_570 ?_
  simp only [jx_blk, jx_op, j1i_c, j2i_c, j1l_c, j2l_c, jil_c, j1r_c, jri_c, jrii_c, jril_c, jrl_c, jrr_c, j2i'_c, jdup_i, jdup_r, jdup2_c, jdup2_l, jpo_c, jli, jll, jlr, jat_0, jat_s, jst, jst2, jkill_i, jkill_r, jkill_l, jkill_n, jnone, jgv_0, jgv_1, jgv_2, jgv_3, jrv_s, jput_0, jput_1, jput_2, jput_3, jpop_0, jpop_1, jcl_s, jc1, jc2, jvi, Nat.reduceAdd, jol_i, jol_l, jol_n, List.map_cons, List.map_nil, List.sum_cons, List.sum_nil, jcI, jcL, jcR, Nat.zero_le, true_and, and_true, and_self, Nat.reduceLeDiff, gI_sI, gI_sL, gI_sR, gL_sI, gL_sL, gL_sR, gR_sI, gR_sL, gR_sR, gS_sI, gS_sL, gS_sR, gN_sI, gN_sL, gN_sR, true_or, or_true, false_or, or_false, Nat.reduceEqDiff, false_and, and_false, if_false, if_true, reduceIte, not_true_eq_false, not_false_eq_true, h0, h1, h2, a1, a2, v1, v2, v3, v4, v5, v6, v7]
  refine jC_post (R _ _ _ _ hI) ?_
  rintro r ν ⟨hr, hg, hs, h3⟩
  simp only [if_true, if_false, Bool.false_eq_true] at hr
  obtain ⟨x, rfl⟩ := hr
  simp only [jx_blk, jx_op, j1i_c, j2i_c, j1l_c, j2l_c, jil_c, j1r_c, jri_c, jrii_c, jril_c, jrl_c, jrr_c, j2i'_c, jdup_i, jdup_r, jdup2_c, jdup2_l, jpo_c, jli, jll, jlr, jat_0, jat_s, jst, jst2, jkill_i, jkill_r, jkill_l, jkill_n, jnone, jgv_0, jgv_1, jgv_2, jgv_3, jrv_s, jput_0, jput_1, jput_2, jput_3, jpop_0, jpop_1, jcl_s, jc1, jc2, jvi, Nat.reduceAdd, jol_i, jol_l, jol_n, List.map_cons, List.map_nil, List.sum_cons, List.sum_nil, jcI, jcL, jcR, Nat.zero_le, true_and, and_true, and_self, Nat.reduceLeDiff, gI_sI, gI_sL, gI_sR, gL_sI, gL_sL, gL_sR, gR_sI, gR_sL, gR_sR, gS_sI, gS_sL, gS_sR, gN_sI, gN_sL, gN_sR, true_or, or_true, false_or, or_false, Nat.reduceEqDiff, false_and, and_false, if_false, if_true, reduceIte, not_true_eq_false, not_false_eq_true, hs, h0, h1, h2, a1, a2, v1, v2, v3, v4, v5, v6, v7, hg]
  refine jC_post h3 ?_
  rintro r2 ν2 ⟨rfl, hI2⟩
  simp only [jx_blk, jx_op, j1i_c, j2i_c, j1l_c, j2l_c, jil_c, j1r_c, jri_c, jrii_c, jril_c, jrl_c, jrr_c, j2i'_c, jdup_i, jdup_r, jdup2_c, jdup2_l, jpo_c, jli, jll, jlr, jat_0, jat_s, jst, jst2, jkill_i, jkill_r, jkill_l, jkill_n, jnone, jgv_0, jgv_1, jgv_2, jgv_3, jrv_s, jput_0, jput_1, jput_2, jput_3, jpop_0, jpop_1, jcl_s, jc1, jc2, jvi, Nat.reduceAdd, jol_i, jol_l, jol_n, List.map_cons, List.map_nil, List.sum_cons, List.sum_nil, jcI, jcL, jcR, Nat.zero_le, true_and, and_true, and_self, Nat.reduceLeDiff, gI_sI, gI_sL, gI_sR, gL_sI, gL_sL, gL_sR, gR_sI, gR_sL, gR_sR, gS_sI, gS_sL, gS_sR, gN_sI, gN_sL, gN_sR, true_or, or_true, false_or, or_false, Nat.reduceEqDiff, false_and, and_false, if_false, if_true, reduceIte, not_true_eq_false, not_false_eq_true, a1, a2]
  exact ⟨fun _ => K ν2 hI2, fun h => by first | exact False.elim h | exact absurd (lcmp0 _) h⟩
set_option maxRecDepth 100000 in
theorem lk_12 {d i L : Nat} {al : Nat × Nat} {μ : jMem} {Q : jQ} {I : Nat → jMem → Prop} (hSh : jShp I) (R : ∀ L μ (x0 : Int32) (x1 : Int32), I L μ → (x1 = 0 ∨ x1 = 1) → jRel d 151 238 [.int x0, .int x1] I L false μ) (hI : I L μ) (hi : i + 8 ≤ L) (hL : L ≤ 4096) (a1 : al.1 ≤ jmC 297) (a2 : al.2 ≤ jmS 297) (K : ∀ ν, I L ν → jR (d + 1) 297 1501 [some (.ref 0), some (.ref 1), some (.ref 133), some (.int (nI i))] [] al ν Q) : jR (d + 1) 297 603 [some (.ref 0), some (.ref 1), some (.ref 133), some (.int (nI i))] [] al μ Q := by
  obtain ⟨h0, h1, h2⟩ := hSh L μ hI
  have v1 : vp_in (nI i + 1) L := by rw [show (nI i + 1 : Int32) = nI (i + 1) from nI_add i 1]; exact vp_in_nI (by omega) (by omega)
  have v2 : vp_in (nI i + 2) L := by rw [show (nI i + 2 : Int32) = nI (i + 2) from nI_add i 2]; exact vp_in_nI (by omega) (by omega)
  have v3 : vp_in (nI i + 3) L := by rw [show (nI i + 3 : Int32) = nI (i + 3) from nI_add i 3]; exact vp_in_nI (by omega) (by omega)
  have v4 : vp_in (nI i + 4) L := by rw [show (nI i + 4 : Int32) = nI (i + 4) from nI_add i 4]; exact vp_in_nI (by omega) (by omega)
  have v5 : vp_in (nI i + 5) L := by rw [show (nI i + 5 : Int32) = nI (i + 5) from nI_add i 5]; exact vp_in_nI (by omega) (by omega)
  have v6 : vp_in (nI i + 6) L := by rw [show (nI i + 6 : Int32) = nI (i + 6) from nI_add i 6]; exact vp_in_nI (by omega) (by omega)
  have v7 : vp_in (nI i + 7) L := by rw [show (nI i + 7 : Int32) = nI (i + 7) from nI_add i 7]; exact vp_in_nI (by omega) (by omega)
  refine b297_603 ?_
  simp only [jx_blk, jx_op, j1i_c, j2i_c, j1l_c, j2l_c, jil_c, j1r_c, jri_c, jrii_c, jril_c, jrl_c, jrr_c, j2i'_c, jdup_i, jdup_r, jdup2_c, jdup2_l, jpo_c, jli, jll, jlr, jat_0, jat_s, jst, jst2, jkill_i, jkill_r, jkill_l, jkill_n, jnone, jgv_0, jgv_1, jgv_2, jgv_3, jrv_s, jput_0, jput_1, jput_2, jput_3, jpop_0, jpop_1, jcl_s, jc1, jc2, jvi, Nat.reduceAdd, jol_i, jol_l, jol_n, List.map_cons, List.map_nil, List.sum_cons, List.sum_nil, jcI, jcL, jcR, Nat.zero_le, true_and, and_true, and_self, Nat.reduceLeDiff, gI_sI, gI_sL, gI_sR, gL_sI, gL_sL, gL_sR, gR_sI, gR_sL, gR_sR, gS_sI, gS_sL, gS_sR, gN_sI, gN_sL, gN_sR, true_or, or_true, false_or, or_false, Nat.reduceEqDiff, false_and, and_false, if_false, if_true, reduceIte, not_true_eq_false, not_false_eq_true, h0, h1, h2, a1, a2, v1, v2, v3, v4, v5, v6, v7]
  have key : ∀ x : Int32, (x = 0 ∨ x = 1) → (gI μ 0 (nI i + 2).toNatClampNeg = 0 ↔ x = 0) → jR (d + 1) 297 622 [some (.ref 0), some (.ref 1), some (.ref 133), some (.int (nI i))] (.int x :: .int (gI μ 0 (nI i + 1).toNatClampNeg) :: .ref 1 :: []) al μ Q := by
    intro x hx hxe
    refine b297_622 ?_
    simp only [jx_blk, jx_op, j1i_c, j2i_c, j1l_c, j2l_c, jil_c, j1r_c, jri_c, jrii_c, jril_c, jrl_c, jrr_c, j2i'_c, jdup_i, jdup_r, jdup2_c, jdup2_l, jpo_c, jli, jll, jlr, jat_0, jat_s, jst, jst2, jkill_i, jkill_r, jkill_l, jkill_n, jnone, jgv_0, jgv_1, jgv_2, jgv_3, jrv_s, jput_0, jput_1, jput_2, jput_3, jpop_0, jpop_1, jcl_s, jc1, jc2, jvi, Nat.reduceAdd, jol_i, jol_l, jol_n, List.map_cons, List.map_nil, List.sum_cons, List.sum_nil, jcI, jcL, jcR, Nat.zero_le, true_and, and_true, and_self, Nat.reduceLeDiff, gI_sI, gI_sL, gI_sR, gL_sI, gL_sL, gL_sR, gR_sI, gR_sL, gR_sR, gS_sI, gS_sL, gS_sR, gN_sI, gN_sL, gN_sR, true_or, or_true, false_or, or_false, Nat.reduceEqDiff, false_and, and_false, if_false, if_true, reduceIte, not_true_eq_false, not_false_eq_true, h0, h1, h2, a1, a2, v1, v2, v3, v4, v5, v6, v7]
    refine jC_post (R _ _ _ _ hI hx) ?_
    rintro r ν ⟨hr, hg, hs, h3⟩
    simp only [if_true, if_false, Bool.false_eq_true] at hr
    obtain ⟨y, rfl⟩ := hr
    simp only [jx_blk, jx_op, j1i_c, j2i_c, j1l_c, j2l_c, jil_c, j1r_c, jri_c, jrii_c, jril_c, jrl_c, jrr_c, j2i'_c, jdup_i, jdup_r, jdup2_c, jdup2_l, jpo_c, jli, jll, jlr, jat_0, jat_s, jst, jst2, jkill_i, jkill_r, jkill_l, jkill_n, jnone, jgv_0, jgv_1, jgv_2, jgv_3, jrv_s, jput_0, jput_1, jput_2, jput_3, jpop_0, jpop_1, jcl_s, jc1, jc2, jvi, Nat.reduceAdd, jol_i, jol_l, jol_n, List.map_cons, List.map_nil, List.sum_cons, List.sum_nil, jcI, jcL, jcR, Nat.zero_le, true_and, and_true, and_self, Nat.reduceLeDiff, gI_sI, gI_sL, gI_sR, gL_sI, gL_sL, gL_sR, gR_sI, gR_sL, gR_sR, gS_sI, gS_sL, gS_sR, gN_sI, gN_sL, gN_sR, true_or, or_true, false_or, or_false, Nat.reduceEqDiff, false_and, and_false, if_false, if_true, reduceIte, not_true_eq_false, not_false_eq_true, hs, h0, h1, h2, a1, a2, v1, v2, v3, v4, v5, v6, v7, hg]
    have key2 : jR (d + 1) 297 644 [some (.ref 0), some (.ref 1), some (.ref 133), some (.int (nI i))] (.int x :: .int (gI μ 0 (nI i + 1).toNatClampNeg) :: .ref 133 :: .int y :: []) al ν Q := by
      refine b297_644 ?_
      simp only [jx_blk, jx_op, j1i_c, j2i_c, j1l_c, j2l_c, jil_c, j1r_c, jri_c, jrii_c, jril_c, jrl_c, jrr_c, j2i'_c, jdup_i, jdup_r, jdup2_c, jdup2_l, jpo_c, jli, jll, jlr, jat_0, jat_s, jst, jst2, jkill_i, jkill_r, jkill_l, jkill_n, jnone, jgv_0, jgv_1, jgv_2, jgv_3, jrv_s, jput_0, jput_1, jput_2, jput_3, jpop_0, jpop_1, jcl_s, jc1, jc2, jvi, Nat.reduceAdd, jol_i, jol_l, jol_n, List.map_cons, List.map_nil, List.sum_cons, List.sum_nil, jcI, jcL, jcR, Nat.zero_le, true_and, and_true, and_self, Nat.reduceLeDiff, gI_sI, gI_sL, gI_sR, gL_sI, gL_sL, gL_sR, gR_sI, gR_sL, gR_sR, gS_sI, gS_sL, gS_sR, gN_sI, gN_sL, gN_sR, true_or, or_true, false_or, or_false, Nat.reduceEqDiff, false_and, and_false, if_false, if_true, reduceIte, not_true_eq_false, not_false_eq_true, hs, h0, h1, h2, a1, a2, v1, v2, v3, v4, v5, v6, v7]
      refine jC_post h3 ?_
      rintro r2 ν2 ⟨rfl, hI2⟩
      simp only [jx_blk, jx_op, j1i_c, j2i_c, j1l_c, j2l_c, jil_c, j1r_c, jri_c, jrii_c, jril_c, jrl_c, jrr_c, j2i'_c, jdup_i, jdup_r, jdup2_c, jdup2_l, jpo_c, jli, jll, jlr, jat_0, jat_s, jst, jst2, jkill_i, jkill_r, jkill_l, jkill_n, jnone, jgv_0, jgv_1, jgv_2, jgv_3, jrv_s, jput_0, jput_1, jput_2, jput_3, jpop_0, jpop_1, jcl_s, jc1, jc2, jvi, Nat.reduceAdd, jol_i, jol_l, jol_n, List.map_cons, List.map_nil, List.sum_cons, List.sum_nil, jcI, jcL, jcR, Nat.zero_le, true_and, and_true, and_self, Nat.reduceLeDiff, gI_sI, gI_sL, gI_sR, gL_sI, gL_sL, gL_sR, gR_sI, gR_sL, gR_sR, gS_sI, gS_sL, gS_sR, gN_sI, gN_sL, gN_sR, true_or, or_true, false_or, or_false, Nat.reduceEqDiff, false_and, and_false, if_false, if_true, reduceIte, not_true_eq_false, not_false_eq_true, a1, a2]
      exact ⟨fun _ => K ν2 hI2, fun h => by first | exact False.elim h | exact absurd (lcmp0 _) h⟩
    refine ⟨fun h => ?_, fun h => ?_⟩
    · refine b297_643 ?_
      simp only [jx_blk, jx_op, j1i_c, j2i_c, j1l_c, j2l_c, jil_c, j1r_c, jri_c, jrii_c, jril_c, jrl_c, jrr_c, j2i'_c, jdup_i, jdup_r, jdup2_c, jdup2_l, jpo_c, jli, jll, jlr, jat_0, jat_s, jst, jst2, jkill_i, jkill_r, jkill_l, jkill_n, jnone, jgv_0, jgv_1, jgv_2, jgv_3, jrv_s, jput_0, jput_1, jput_2, jput_3, jpop_0, jpop_1, jcl_s, jc1, jc2, jvi, Nat.reduceAdd, jol_i, jol_l, jol_n, List.map_cons, List.map_nil, List.sum_cons, List.sum_nil, jcI, jcL, jcR, Nat.zero_le, true_and, and_true, and_self, Nat.reduceLeDiff, gI_sI, gI_sL, gI_sR, gL_sI, gL_sL, gL_sR, gR_sI, gR_sL, gR_sR, gS_sI, gS_sL, gS_sR, gN_sI, gN_sL, gN_sR, true_or, or_true, false_or, or_false, Nat.reduceEqDiff, false_and, and_false, if_false, if_true, reduceIte, not_true_eq_false, not_false_eq_true]
      have hx0 := hxe.mp h
      subst hx0
      exact key2
    · have hx1 : x = 1 := hx.resolve_left (fun e => h (hxe.mpr e))
      subst hx1
      exact key2
  refine ⟨fun h => ?_, fun h => ?_⟩
  · refine b297_621 ?_
    simp only [jx_blk, jx_op, j1i_c, j2i_c, j1l_c, j2l_c, jil_c, j1r_c, jri_c, jrii_c, jril_c, jrl_c, jrr_c, j2i'_c, jdup_i, jdup_r, jdup2_c, jdup2_l, jpo_c, jli, jll, jlr, jat_0, jat_s, jst, jst2, jkill_i, jkill_r, jkill_l, jkill_n, jnone, jgv_0, jgv_1, jgv_2, jgv_3, jrv_s, jput_0, jput_1, jput_2, jput_3, jpop_0, jpop_1, jcl_s, jc1, jc2, jvi, Nat.reduceAdd, jol_i, jol_l, jol_n, List.map_cons, List.map_nil, List.sum_cons, List.sum_nil, jcI, jcL, jcR, Nat.zero_le, true_and, and_true, and_self, Nat.reduceLeDiff, gI_sI, gI_sL, gI_sR, gL_sI, gL_sL, gL_sR, gR_sI, gR_sL, gR_sR, gS_sI, gS_sL, gS_sR, gN_sI, gN_sL, gN_sR, true_or, or_true, false_or, or_false, Nat.reduceEqDiff, false_and, and_false, if_false, if_true, reduceIte, not_true_eq_false, not_false_eq_true]
    exact key 0 (Or.inl rfl) ⟨fun _ => rfl, fun _ => h⟩
  · exact key 1 (Or.inr rfl) ⟨fun e => absurd e h, fun e => absurd e (by decide)⟩
set_option maxRecDepth 100000 in
theorem lk_13 {d i L : Nat} {al : Nat × Nat} {μ : jMem} {Q : jQ} {I : Nat → jMem → Prop} (hSh : jShp I) (R : ∀ L μ (x0 : Int32), I L μ → (x0 = 0 ∨ x0 = 1) → jRel d 152 239 [.int x0] I L false μ) (hI : I L μ) (hi : i + 8 ≤ L) (hL : L ≤ 4096) (a1 : al.1 ≤ jmC 297) (a2 : al.2 ≤ jmS 297) (K : ∀ ν, I L ν → jR (d + 1) 297 1501 [some (.ref 0), some (.ref 1), some (.ref 133), some (.int (nI i))] [] al ν Q) : jR (d + 1) 297 652 [some (.ref 0), some (.ref 1), some (.ref 133), some (.int (nI i))] [] al μ Q := by
  obtain ⟨h0, h1, h2⟩ := hSh L μ hI
  have v1 : vp_in (nI i + 1) L := by rw [show (nI i + 1 : Int32) = nI (i + 1) from nI_add i 1]; exact vp_in_nI (by omega) (by omega)
  have v2 : vp_in (nI i + 2) L := by rw [show (nI i + 2 : Int32) = nI (i + 2) from nI_add i 2]; exact vp_in_nI (by omega) (by omega)
  have v3 : vp_in (nI i + 3) L := by rw [show (nI i + 3 : Int32) = nI (i + 3) from nI_add i 3]; exact vp_in_nI (by omega) (by omega)
  have v4 : vp_in (nI i + 4) L := by rw [show (nI i + 4 : Int32) = nI (i + 4) from nI_add i 4]; exact vp_in_nI (by omega) (by omega)
  have v5 : vp_in (nI i + 5) L := by rw [show (nI i + 5 : Int32) = nI (i + 5) from nI_add i 5]; exact vp_in_nI (by omega) (by omega)
  have v6 : vp_in (nI i + 6) L := by rw [show (nI i + 6 : Int32) = nI (i + 6) from nI_add i 6]; exact vp_in_nI (by omega) (by omega)
  have v7 : vp_in (nI i + 7) L := by rw [show (nI i + 7 : Int32) = nI (i + 7) from nI_add i 7]; exact vp_in_nI (by omega) (by omega)
  refine b297_652 ?_
  simp only [jx_blk, jx_op, j1i_c, j2i_c, j1l_c, j2l_c, jil_c, j1r_c, jri_c, jrii_c, jril_c, jrl_c, jrr_c, j2i'_c, jdup_i, jdup_r, jdup2_c, jdup2_l, jpo_c, jli, jll, jlr, jat_0, jat_s, jst, jst2, jkill_i, jkill_r, jkill_l, jkill_n, jnone, jgv_0, jgv_1, jgv_2, jgv_3, jrv_s, jput_0, jput_1, jput_2, jput_3, jpop_0, jpop_1, jcl_s, jc1, jc2, jvi, Nat.reduceAdd, jol_i, jol_l, jol_n, List.map_cons, List.map_nil, List.sum_cons, List.sum_nil, jcI, jcL, jcR, Nat.zero_le, true_and, and_true, and_self, Nat.reduceLeDiff, gI_sI, gI_sL, gI_sR, gL_sI, gL_sL, gL_sR, gR_sI, gR_sL, gR_sR, gS_sI, gS_sL, gS_sR, gN_sI, gN_sL, gN_sR, true_or, or_true, false_or, or_false, Nat.reduceEqDiff, false_and, and_false, if_false, if_true, reduceIte, not_true_eq_false, not_false_eq_true, h0, h1, h2, a1, a2, v1, v2, v3, v4, v5, v6, v7]
  have key : ∀ x : Int32, (x = 0 ∨ x = 1) → (gI μ 0 (nI i + 1).toNatClampNeg = 0 ↔ x = 0) → jR (d + 1) 297 666 [some (.ref 0), some (.ref 1), some (.ref 133), some (.int (nI i))] (.int x :: .ref 1 :: []) al μ Q := by
    intro x hx hxe
    refine b297_666 ?_
    simp only [jx_blk, jx_op, j1i_c, j2i_c, j1l_c, j2l_c, jil_c, j1r_c, jri_c, jrii_c, jril_c, jrl_c, jrr_c, j2i'_c, jdup_i, jdup_r, jdup2_c, jdup2_l, jpo_c, jli, jll, jlr, jat_0, jat_s, jst, jst2, jkill_i, jkill_r, jkill_l, jkill_n, jnone, jgv_0, jgv_1, jgv_2, jgv_3, jrv_s, jput_0, jput_1, jput_2, jput_3, jpop_0, jpop_1, jcl_s, jc1, jc2, jvi, Nat.reduceAdd, jol_i, jol_l, jol_n, List.map_cons, List.map_nil, List.sum_cons, List.sum_nil, jcI, jcL, jcR, Nat.zero_le, true_and, and_true, and_self, Nat.reduceLeDiff, gI_sI, gI_sL, gI_sR, gL_sI, gL_sL, gL_sR, gR_sI, gR_sL, gR_sR, gS_sI, gS_sL, gS_sR, gN_sI, gN_sL, gN_sR, true_or, or_true, false_or, or_false, Nat.reduceEqDiff, false_and, and_false, if_false, if_true, reduceIte, not_true_eq_false, not_false_eq_true, h0, h1, h2, a1, a2, v1, v2, v3, v4, v5, v6, v7]
    refine jC_post (R _ _ _ hI hx) ?_
    rintro r ν ⟨hr, hg, hs, h3⟩
    simp only [if_true, if_false, Bool.false_eq_true] at hr
    obtain ⟨y, rfl⟩ := hr
    simp only [jx_blk, jx_op, j1i_c, j2i_c, j1l_c, j2l_c, jil_c, j1r_c, jri_c, jrii_c, jril_c, jrl_c, jrr_c, j2i'_c, jdup_i, jdup_r, jdup2_c, jdup2_l, jpo_c, jli, jll, jlr, jat_0, jat_s, jst, jst2, jkill_i, jkill_r, jkill_l, jkill_n, jnone, jgv_0, jgv_1, jgv_2, jgv_3, jrv_s, jput_0, jput_1, jput_2, jput_3, jpop_0, jpop_1, jcl_s, jc1, jc2, jvi, Nat.reduceAdd, jol_i, jol_l, jol_n, List.map_cons, List.map_nil, List.sum_cons, List.sum_nil, jcI, jcL, jcR, Nat.zero_le, true_and, and_true, and_self, Nat.reduceLeDiff, gI_sI, gI_sL, gI_sR, gL_sI, gL_sL, gL_sR, gR_sI, gR_sL, gR_sR, gS_sI, gS_sL, gS_sR, gN_sI, gN_sL, gN_sR, true_or, or_true, false_or, or_false, Nat.reduceEqDiff, false_and, and_false, if_false, if_true, reduceIte, not_true_eq_false, not_false_eq_true, hs, h0, h1, h2, a1, a2, v1, v2, v3, v4, v5, v6, v7, hg]
    have key2 : jR (d + 1) 297 683 [some (.ref 0), some (.ref 1), some (.ref 133), some (.int (nI i))] (.int x :: .ref 133 :: .int y :: []) al ν Q := by
      refine b297_683 ?_
      simp only [jx_blk, jx_op, j1i_c, j2i_c, j1l_c, j2l_c, jil_c, j1r_c, jri_c, jrii_c, jril_c, jrl_c, jrr_c, j2i'_c, jdup_i, jdup_r, jdup2_c, jdup2_l, jpo_c, jli, jll, jlr, jat_0, jat_s, jst, jst2, jkill_i, jkill_r, jkill_l, jkill_n, jnone, jgv_0, jgv_1, jgv_2, jgv_3, jrv_s, jput_0, jput_1, jput_2, jput_3, jpop_0, jpop_1, jcl_s, jc1, jc2, jvi, Nat.reduceAdd, jol_i, jol_l, jol_n, List.map_cons, List.map_nil, List.sum_cons, List.sum_nil, jcI, jcL, jcR, Nat.zero_le, true_and, and_true, and_self, Nat.reduceLeDiff, gI_sI, gI_sL, gI_sR, gL_sI, gL_sL, gL_sR, gR_sI, gR_sL, gR_sR, gS_sI, gS_sL, gS_sR, gN_sI, gN_sL, gN_sR, true_or, or_true, false_or, or_false, Nat.reduceEqDiff, false_and, and_false, if_false, if_true, reduceIte, not_true_eq_false, not_false_eq_true, hs, h0, h1, h2, a1, a2, v1, v2, v3, v4, v5, v6, v7]
      refine jC_post h3 ?_
      rintro r2 ν2 ⟨rfl, hI2⟩
      simp only [jx_blk, jx_op, j1i_c, j2i_c, j1l_c, j2l_c, jil_c, j1r_c, jri_c, jrii_c, jril_c, jrl_c, jrr_c, j2i'_c, jdup_i, jdup_r, jdup2_c, jdup2_l, jpo_c, jli, jll, jlr, jat_0, jat_s, jst, jst2, jkill_i, jkill_r, jkill_l, jkill_n, jnone, jgv_0, jgv_1, jgv_2, jgv_3, jrv_s, jput_0, jput_1, jput_2, jput_3, jpop_0, jpop_1, jcl_s, jc1, jc2, jvi, Nat.reduceAdd, jol_i, jol_l, jol_n, List.map_cons, List.map_nil, List.sum_cons, List.sum_nil, jcI, jcL, jcR, Nat.zero_le, true_and, and_true, and_self, Nat.reduceLeDiff, gI_sI, gI_sL, gI_sR, gL_sI, gL_sL, gL_sR, gR_sI, gR_sL, gR_sR, gS_sI, gS_sL, gS_sR, gN_sI, gN_sL, gN_sR, true_or, or_true, false_or, or_false, Nat.reduceEqDiff, false_and, and_false, if_false, if_true, reduceIte, not_true_eq_false, not_false_eq_true, a1, a2]
      exact ⟨fun _ => K ν2 hI2, fun h => by first | exact False.elim h | exact absurd (lcmp0 _) h⟩
    refine ⟨fun h => ?_, fun h => ?_⟩
    · refine b297_682 ?_
      simp only [jx_blk, jx_op, j1i_c, j2i_c, j1l_c, j2l_c, jil_c, j1r_c, jri_c, jrii_c, jril_c, jrl_c, jrr_c, j2i'_c, jdup_i, jdup_r, jdup2_c, jdup2_l, jpo_c, jli, jll, jlr, jat_0, jat_s, jst, jst2, jkill_i, jkill_r, jkill_l, jkill_n, jnone, jgv_0, jgv_1, jgv_2, jgv_3, jrv_s, jput_0, jput_1, jput_2, jput_3, jpop_0, jpop_1, jcl_s, jc1, jc2, jvi, Nat.reduceAdd, jol_i, jol_l, jol_n, List.map_cons, List.map_nil, List.sum_cons, List.sum_nil, jcI, jcL, jcR, Nat.zero_le, true_and, and_true, and_self, Nat.reduceLeDiff, gI_sI, gI_sL, gI_sR, gL_sI, gL_sL, gL_sR, gR_sI, gR_sL, gR_sR, gS_sI, gS_sL, gS_sR, gN_sI, gN_sL, gN_sR, true_or, or_true, false_or, or_false, Nat.reduceEqDiff, false_and, and_false, if_false, if_true, reduceIte, not_true_eq_false, not_false_eq_true]
      have hx0 := hxe.mp h
      subst hx0
      exact key2
    · have hx1 : x = 1 := hx.resolve_left (fun e => h (hxe.mpr e))
      subst hx1
      exact key2
  refine ⟨fun h => ?_, fun h => ?_⟩
  · refine b297_665 ?_
    simp only [jx_blk, jx_op, j1i_c, j2i_c, j1l_c, j2l_c, jil_c, j1r_c, jri_c, jrii_c, jril_c, jrl_c, jrr_c, j2i'_c, jdup_i, jdup_r, jdup2_c, jdup2_l, jpo_c, jli, jll, jlr, jat_0, jat_s, jst, jst2, jkill_i, jkill_r, jkill_l, jkill_n, jnone, jgv_0, jgv_1, jgv_2, jgv_3, jrv_s, jput_0, jput_1, jput_2, jput_3, jpop_0, jpop_1, jcl_s, jc1, jc2, jvi, Nat.reduceAdd, jol_i, jol_l, jol_n, List.map_cons, List.map_nil, List.sum_cons, List.sum_nil, jcI, jcL, jcR, Nat.zero_le, true_and, and_true, and_self, Nat.reduceLeDiff, gI_sI, gI_sL, gI_sR, gL_sI, gL_sL, gL_sR, gR_sI, gR_sL, gR_sR, gS_sI, gS_sL, gS_sR, gN_sI, gN_sL, gN_sR, true_or, or_true, false_or, or_false, Nat.reduceEqDiff, false_and, and_false, if_false, if_true, reduceIte, not_true_eq_false, not_false_eq_true]
    exact key 0 (Or.inl rfl) ⟨fun _ => rfl, fun _ => h⟩
  · exact key 1 (Or.inr rfl) ⟨fun e => absurd e h, fun e => absurd e (by decide)⟩
set_option maxRecDepth 100000 in
theorem lk_14 {d i L : Nat} {al : Nat × Nat} {μ : jMem} {Q : jQ} {I : Nat → jMem → Prop} (hSh : jShp I) (R : ∀ L μ (x0 : Int32) (x1 : Int32), I L μ → jRel d 153 241 [.int x0, .int x1] I L false μ) (hI : I L μ) (hi : i + 8 ≤ L) (hL : L ≤ 4096) (a1 : al.1 ≤ jmC 297) (a2 : al.2 ≤ jmS 297) (K : ∀ ν, I L ν → jR (d + 1) 297 1501 [some (.ref 0), some (.ref 1), some (.ref 133), some (.int (nI i))] [] al ν Q) : jR (d + 1) 297 691 [some (.ref 0), some (.ref 1), some (.ref 133), some (.int (nI i))] [] al μ Q := by
  obtain ⟨h0, h1, h2⟩ := hSh L μ hI
  have v1 : vp_in (nI i + 1) L := by rw [show (nI i + 1 : Int32) = nI (i + 1) from nI_add i 1]; exact vp_in_nI (by omega) (by omega)
  have v2 : vp_in (nI i + 2) L := by rw [show (nI i + 2 : Int32) = nI (i + 2) from nI_add i 2]; exact vp_in_nI (by omega) (by omega)
  have v3 : vp_in (nI i + 3) L := by rw [show (nI i + 3 : Int32) = nI (i + 3) from nI_add i 3]; exact vp_in_nI (by omega) (by omega)
  have v4 : vp_in (nI i + 4) L := by rw [show (nI i + 4 : Int32) = nI (i + 4) from nI_add i 4]; exact vp_in_nI (by omega) (by omega)
  have v5 : vp_in (nI i + 5) L := by rw [show (nI i + 5 : Int32) = nI (i + 5) from nI_add i 5]; exact vp_in_nI (by omega) (by omega)
  have v6 : vp_in (nI i + 6) L := by rw [show (nI i + 6 : Int32) = nI (i + 6) from nI_add i 6]; exact vp_in_nI (by omega) (by omega)
  have v7 : vp_in (nI i + 7) L := by rw [show (nI i + 7 : Int32) = nI (i + 7) from nI_add i 7]; exact vp_in_nI (by omega) (by omega)
  refine b297_691 ?_
  simp only [jx_blk, jx_op, j1i_c, j2i_c, j1l_c, j2l_c, jil_c, j1r_c, jri_c, jrii_c, jril_c, jrl_c, jrr_c, j2i'_c, jdup_i, jdup_r, jdup2_c, jdup2_l, jpo_c, jli, jll, jlr, jat_0, jat_s, jst, jst2, jkill_i, jkill_r, jkill_l, jkill_n, jnone, jgv_0, jgv_1, jgv_2, jgv_3, jrv_s, jput_0, jput_1, jput_2, jput_3, jpop_0, jpop_1, jcl_s, jc1, jc2, jvi, Nat.reduceAdd, jol_i, jol_l, jol_n, List.map_cons, List.map_nil, List.sum_cons, List.sum_nil, jcI, jcL, jcR, Nat.zero_le, true_and, and_true, and_self, Nat.reduceLeDiff, gI_sI, gI_sL, gI_sR, gL_sI, gL_sL, gL_sR, gR_sI, gR_sL, gR_sR, gS_sI, gS_sL, gS_sR, gN_sI, gN_sL, gN_sR, true_or, or_true, false_or, or_false, Nat.reduceEqDiff, false_and, and_false, if_false, if_true, reduceIte, not_true_eq_false, not_false_eq_true, h0, h1, h2, a1, a2, v1, v2, v3, v4, v5, v6, v7]
  refine jC_post (R _ _ _ _ hI) ?_
  rintro r ν ⟨hr, hg, hs, h3⟩
  simp only [if_true, if_false, Bool.false_eq_true] at hr
  obtain ⟨x, rfl⟩ := hr
  simp only [jx_blk, jx_op, j1i_c, j2i_c, j1l_c, j2l_c, jil_c, j1r_c, jri_c, jrii_c, jril_c, jrl_c, jrr_c, j2i'_c, jdup_i, jdup_r, jdup2_c, jdup2_l, jpo_c, jli, jll, jlr, jat_0, jat_s, jst, jst2, jkill_i, jkill_r, jkill_l, jkill_n, jnone, jgv_0, jgv_1, jgv_2, jgv_3, jrv_s, jput_0, jput_1, jput_2, jput_3, jpop_0, jpop_1, jcl_s, jc1, jc2, jvi, Nat.reduceAdd, jol_i, jol_l, jol_n, List.map_cons, List.map_nil, List.sum_cons, List.sum_nil, jcI, jcL, jcR, Nat.zero_le, true_and, and_true, and_self, Nat.reduceLeDiff, gI_sI, gI_sL, gI_sR, gL_sI, gL_sL, gL_sR, gR_sI, gR_sL, gR_sR, gS_sI, gS_sL, gS_sR, gN_sI, gN_sL, gN_sR, true_or, or_true, false_or, or_false, Nat.reduceEqDiff, false_and, and_false, if_false, if_true, reduceIte, not_true_eq_false, not_false_eq_true, hs, h0, h1, h2, a1, a2, v1, v2, v3, v4, v5, v6, v7, hg]
  refine jC_post h3 ?_
  rintro r2 ν2 ⟨rfl, hI2⟩
  simp only [jx_blk, jx_op, j1i_c, j2i_c, j1l_c, j2l_c, jil_c, j1r_c, jri_c, jrii_c, jril_c, jrl_c, jrr_c, j2i'_c, jdup_i, jdup_r, jdup2_c, jdup2_l, jpo_c, jli, jll, jlr, jat_0, jat_s, jst, jst2, jkill_i, jkill_r, jkill_l, jkill_n, jnone, jgv_0, jgv_1, jgv_2, jgv_3, jrv_s, jput_0, jput_1, jput_2, jput_3, jpop_0, jpop_1, jcl_s, jc1, jc2, jvi, Nat.reduceAdd, jol_i, jol_l, jol_n, List.map_cons, List.map_nil, List.sum_cons, List.sum_nil, jcI, jcL, jcR, Nat.zero_le, true_and, and_true, and_self, Nat.reduceLeDiff, gI_sI, gI_sL, gI_sR, gL_sI, gL_sL, gL_sR, gR_sI, gR_sL, gR_sR, gS_sI, gS_sL, gS_sR, gN_sI, gN_sL, gN_sR, true_or, or_true, false_or, or_false, Nat.reduceEqDiff, false_and, and_false, if_false, if_true, reduceIte, not_true_eq_false, not_false_eq_true, a1, a2]
  exact ⟨fun _ => K ν2 hI2, fun h => by first | exact False.elim h | exact absurd (lcmp0 _) h⟩
set_option maxRecDepth 100000 in
theorem lk_15 {d i L : Nat} {al : Nat × Nat} {μ : jMem} {Q : jQ} {I : Nat → jMem → Prop} (hSh : jShp I) (R : ∀ L μ (x0 : Int32) (x1 : Int32) (x2 : Int32), I L μ → (x2 = 0 ∨ x2 = 1) → jRel d 154 242 [.int x0, .int x1, .int x2] I L false μ) (hI : I L μ) (hi : i + 8 ≤ L) (hL : L ≤ 4096) (a1 : al.1 ≤ jmC 297) (a2 : al.2 ≤ jmS 297) (K : ∀ ν, I L ν → jR (d + 1) 297 1501 [some (.ref 0), some (.ref 1), some (.ref 133), some (.int (nI i))] [] al ν Q) : jR (d + 1) 297 724 [some (.ref 0), some (.ref 1), some (.ref 133), some (.int (nI i))] [] al μ Q := by
  obtain ⟨h0, h1, h2⟩ := hSh L μ hI
  have v1 : vp_in (nI i + 1) L := by rw [show (nI i + 1 : Int32) = nI (i + 1) from nI_add i 1]; exact vp_in_nI (by omega) (by omega)
  have v2 : vp_in (nI i + 2) L := by rw [show (nI i + 2 : Int32) = nI (i + 2) from nI_add i 2]; exact vp_in_nI (by omega) (by omega)
  have v3 : vp_in (nI i + 3) L := by rw [show (nI i + 3 : Int32) = nI (i + 3) from nI_add i 3]; exact vp_in_nI (by omega) (by omega)
  have v4 : vp_in (nI i + 4) L := by rw [show (nI i + 4 : Int32) = nI (i + 4) from nI_add i 4]; exact vp_in_nI (by omega) (by omega)
  have v5 : vp_in (nI i + 5) L := by rw [show (nI i + 5 : Int32) = nI (i + 5) from nI_add i 5]; exact vp_in_nI (by omega) (by omega)
  have v6 : vp_in (nI i + 6) L := by rw [show (nI i + 6 : Int32) = nI (i + 6) from nI_add i 6]; exact vp_in_nI (by omega) (by omega)
  have v7 : vp_in (nI i + 7) L := by rw [show (nI i + 7 : Int32) = nI (i + 7) from nI_add i 7]; exact vp_in_nI (by omega) (by omega)
  refine b297_724 ?_
  simp only [jx_blk, jx_op, j1i_c, j2i_c, j1l_c, j2l_c, jil_c, j1r_c, jri_c, jrii_c, jril_c, jrl_c, jrr_c, j2i'_c, jdup_i, jdup_r, jdup2_c, jdup2_l, jpo_c, jli, jll, jlr, jat_0, jat_s, jst, jst2, jkill_i, jkill_r, jkill_l, jkill_n, jnone, jgv_0, jgv_1, jgv_2, jgv_3, jrv_s, jput_0, jput_1, jput_2, jput_3, jpop_0, jpop_1, jcl_s, jc1, jc2, jvi, Nat.reduceAdd, jol_i, jol_l, jol_n, List.map_cons, List.map_nil, List.sum_cons, List.sum_nil, jcI, jcL, jcR, Nat.zero_le, true_and, and_true, and_self, Nat.reduceLeDiff, gI_sI, gI_sL, gI_sR, gL_sI, gL_sL, gL_sR, gR_sI, gR_sL, gR_sR, gS_sI, gS_sL, gS_sR, gN_sI, gN_sL, gN_sR, true_or, or_true, false_or, or_false, Nat.reduceEqDiff, false_and, and_false, if_false, if_true, reduceIte, not_true_eq_false, not_false_eq_true, h0, h1, h2, a1, a2, v1, v2, v3, v4, v5, v6, v7]
  have key : ∀ x : Int32, (x = 0 ∨ x = 1) → (gI μ 0 (nI i + 3).toNatClampNeg = 0 ↔ x = 0) → jR (d + 1) 297 748 [some (.ref 0), some (.ref 1), some (.ref 133), some (.int (nI i))] (.int x :: .int (gI μ 0 (nI i + 2).toNatClampNeg) :: .int (gI μ 0 (nI i + 1).toNatClampNeg) :: .ref 1 :: []) al μ Q := by
    intro x hx hxe
    refine b297_748 ?_
    simp only [jx_blk, jx_op, j1i_c, j2i_c, j1l_c, j2l_c, jil_c, j1r_c, jri_c, jrii_c, jril_c, jrl_c, jrr_c, j2i'_c, jdup_i, jdup_r, jdup2_c, jdup2_l, jpo_c, jli, jll, jlr, jat_0, jat_s, jst, jst2, jkill_i, jkill_r, jkill_l, jkill_n, jnone, jgv_0, jgv_1, jgv_2, jgv_3, jrv_s, jput_0, jput_1, jput_2, jput_3, jpop_0, jpop_1, jcl_s, jc1, jc2, jvi, Nat.reduceAdd, jol_i, jol_l, jol_n, List.map_cons, List.map_nil, List.sum_cons, List.sum_nil, jcI, jcL, jcR, Nat.zero_le, true_and, and_true, and_self, Nat.reduceLeDiff, gI_sI, gI_sL, gI_sR, gL_sI, gL_sL, gL_sR, gR_sI, gR_sL, gR_sR, gS_sI, gS_sL, gS_sR, gN_sI, gN_sL, gN_sR, true_or, or_true, false_or, or_false, Nat.reduceEqDiff, false_and, and_false, if_false, if_true, reduceIte, not_true_eq_false, not_false_eq_true, h0, h1, h2, a1, a2, v1, v2, v3, v4, v5, v6, v7]
    refine jC_post (R _ _ _ _ _ hI hx) ?_
    rintro r ν ⟨hr, hg, hs, h3⟩
    simp only [if_true, if_false, Bool.false_eq_true] at hr
    obtain ⟨y, rfl⟩ := hr
    simp only [jx_blk, jx_op, j1i_c, j2i_c, j1l_c, j2l_c, jil_c, j1r_c, jri_c, jrii_c, jril_c, jrl_c, jrr_c, j2i'_c, jdup_i, jdup_r, jdup2_c, jdup2_l, jpo_c, jli, jll, jlr, jat_0, jat_s, jst, jst2, jkill_i, jkill_r, jkill_l, jkill_n, jnone, jgv_0, jgv_1, jgv_2, jgv_3, jrv_s, jput_0, jput_1, jput_2, jput_3, jpop_0, jpop_1, jcl_s, jc1, jc2, jvi, Nat.reduceAdd, jol_i, jol_l, jol_n, List.map_cons, List.map_nil, List.sum_cons, List.sum_nil, jcI, jcL, jcR, Nat.zero_le, true_and, and_true, and_self, Nat.reduceLeDiff, gI_sI, gI_sL, gI_sR, gL_sI, gL_sL, gL_sR, gR_sI, gR_sL, gR_sR, gS_sI, gS_sL, gS_sR, gN_sI, gN_sL, gN_sR, true_or, or_true, false_or, or_false, Nat.reduceEqDiff, false_and, and_false, if_false, if_true, reduceIte, not_true_eq_false, not_false_eq_true, hs, h0, h1, h2, a1, a2, v1, v2, v3, v4, v5, v6, v7, hg]
    have key2 : jR (d + 1) 297 775 [some (.ref 0), some (.ref 1), some (.ref 133), some (.int (nI i))] (.int x :: .int (gI μ 0 (nI i + 2).toNatClampNeg) :: .int (gI μ 0 (nI i + 1).toNatClampNeg) :: .ref 133 :: .int y :: []) al ν Q := by
      refine b297_775 ?_
      simp only [jx_blk, jx_op, j1i_c, j2i_c, j1l_c, j2l_c, jil_c, j1r_c, jri_c, jrii_c, jril_c, jrl_c, jrr_c, j2i'_c, jdup_i, jdup_r, jdup2_c, jdup2_l, jpo_c, jli, jll, jlr, jat_0, jat_s, jst, jst2, jkill_i, jkill_r, jkill_l, jkill_n, jnone, jgv_0, jgv_1, jgv_2, jgv_3, jrv_s, jput_0, jput_1, jput_2, jput_3, jpop_0, jpop_1, jcl_s, jc1, jc2, jvi, Nat.reduceAdd, jol_i, jol_l, jol_n, List.map_cons, List.map_nil, List.sum_cons, List.sum_nil, jcI, jcL, jcR, Nat.zero_le, true_and, and_true, and_self, Nat.reduceLeDiff, gI_sI, gI_sL, gI_sR, gL_sI, gL_sL, gL_sR, gR_sI, gR_sL, gR_sR, gS_sI, gS_sL, gS_sR, gN_sI, gN_sL, gN_sR, true_or, or_true, false_or, or_false, Nat.reduceEqDiff, false_and, and_false, if_false, if_true, reduceIte, not_true_eq_false, not_false_eq_true, hs, h0, h1, h2, a1, a2, v1, v2, v3, v4, v5, v6, v7]
      refine jC_post h3 ?_
      rintro r2 ν2 ⟨rfl, hI2⟩
      simp only [jx_blk, jx_op, j1i_c, j2i_c, j1l_c, j2l_c, jil_c, j1r_c, jri_c, jrii_c, jril_c, jrl_c, jrr_c, j2i'_c, jdup_i, jdup_r, jdup2_c, jdup2_l, jpo_c, jli, jll, jlr, jat_0, jat_s, jst, jst2, jkill_i, jkill_r, jkill_l, jkill_n, jnone, jgv_0, jgv_1, jgv_2, jgv_3, jrv_s, jput_0, jput_1, jput_2, jput_3, jpop_0, jpop_1, jcl_s, jc1, jc2, jvi, Nat.reduceAdd, jol_i, jol_l, jol_n, List.map_cons, List.map_nil, List.sum_cons, List.sum_nil, jcI, jcL, jcR, Nat.zero_le, true_and, and_true, and_self, Nat.reduceLeDiff, gI_sI, gI_sL, gI_sR, gL_sI, gL_sL, gL_sR, gR_sI, gR_sL, gR_sR, gS_sI, gS_sL, gS_sR, gN_sI, gN_sL, gN_sR, true_or, or_true, false_or, or_false, Nat.reduceEqDiff, false_and, and_false, if_false, if_true, reduceIte, not_true_eq_false, not_false_eq_true, a1, a2]
      exact ⟨fun _ => K ν2 hI2, fun h => by first | exact False.elim h | exact absurd (lcmp0 _) h⟩
    refine ⟨fun h => ?_, fun h => ?_⟩
    · refine b297_774 ?_
      simp only [jx_blk, jx_op, j1i_c, j2i_c, j1l_c, j2l_c, jil_c, j1r_c, jri_c, jrii_c, jril_c, jrl_c, jrr_c, j2i'_c, jdup_i, jdup_r, jdup2_c, jdup2_l, jpo_c, jli, jll, jlr, jat_0, jat_s, jst, jst2, jkill_i, jkill_r, jkill_l, jkill_n, jnone, jgv_0, jgv_1, jgv_2, jgv_3, jrv_s, jput_0, jput_1, jput_2, jput_3, jpop_0, jpop_1, jcl_s, jc1, jc2, jvi, Nat.reduceAdd, jol_i, jol_l, jol_n, List.map_cons, List.map_nil, List.sum_cons, List.sum_nil, jcI, jcL, jcR, Nat.zero_le, true_and, and_true, and_self, Nat.reduceLeDiff, gI_sI, gI_sL, gI_sR, gL_sI, gL_sL, gL_sR, gR_sI, gR_sL, gR_sR, gS_sI, gS_sL, gS_sR, gN_sI, gN_sL, gN_sR, true_or, or_true, false_or, or_false, Nat.reduceEqDiff, false_and, and_false, if_false, if_true, reduceIte, not_true_eq_false, not_false_eq_true]
      have hx0 := hxe.mp h
      subst hx0
      exact key2
    · have hx1 : x = 1 := hx.resolve_left (fun e => h (hxe.mpr e))
      subst hx1
      exact key2
  refine ⟨fun h => ?_, fun h => ?_⟩
  · refine b297_747 ?_
    simp only [jx_blk, jx_op, j1i_c, j2i_c, j1l_c, j2l_c, jil_c, j1r_c, jri_c, jrii_c, jril_c, jrl_c, jrr_c, j2i'_c, jdup_i, jdup_r, jdup2_c, jdup2_l, jpo_c, jli, jll, jlr, jat_0, jat_s, jst, jst2, jkill_i, jkill_r, jkill_l, jkill_n, jnone, jgv_0, jgv_1, jgv_2, jgv_3, jrv_s, jput_0, jput_1, jput_2, jput_3, jpop_0, jpop_1, jcl_s, jc1, jc2, jvi, Nat.reduceAdd, jol_i, jol_l, jol_n, List.map_cons, List.map_nil, List.sum_cons, List.sum_nil, jcI, jcL, jcR, Nat.zero_le, true_and, and_true, and_self, Nat.reduceLeDiff, gI_sI, gI_sL, gI_sR, gL_sI, gL_sL, gL_sR, gR_sI, gR_sL, gR_sR, gS_sI, gS_sL, gS_sR, gN_sI, gN_sL, gN_sR, true_or, or_true, false_or, or_false, Nat.reduceEqDiff, false_and, and_false, if_false, if_true, reduceIte, not_true_eq_false, not_false_eq_true]
    exact key 0 (Or.inl rfl) ⟨fun _ => rfl, fun _ => h⟩
  · exact key 1 (Or.inr rfl) ⟨fun e => absurd e h, fun e => absurd e (by decide)⟩
set_option maxRecDepth 100000 in
theorem lk_16 {d i L : Nat} {al : Nat × Nat} {μ : jMem} {Q : jQ} {I : Nat → jMem → Prop} (hSh : jShp I) (R : ∀ L μ (x0 : Int32), I L μ → jRel d 155 244 [.int x0] I L false μ) (hI : I L μ) (hi : i + 8 ≤ L) (hL : L ≤ 4096) (a1 : al.1 ≤ jmC 297) (a2 : al.2 ≤ jmS 297) (K : ∀ ν, I L ν → jR (d + 1) 297 1501 [some (.ref 0), some (.ref 1), some (.ref 133), some (.int (nI i))] [] al ν Q) : jR (d + 1) 297 783 [some (.ref 0), some (.ref 1), some (.ref 133), some (.int (nI i))] [] al μ Q := by
  obtain ⟨h0, h1, h2⟩ := hSh L μ hI
  have v1 : vp_in (nI i + 1) L := by rw [show (nI i + 1 : Int32) = nI (i + 1) from nI_add i 1]; exact vp_in_nI (by omega) (by omega)
  have v2 : vp_in (nI i + 2) L := by rw [show (nI i + 2 : Int32) = nI (i + 2) from nI_add i 2]; exact vp_in_nI (by omega) (by omega)
  have v3 : vp_in (nI i + 3) L := by rw [show (nI i + 3 : Int32) = nI (i + 3) from nI_add i 3]; exact vp_in_nI (by omega) (by omega)
  have v4 : vp_in (nI i + 4) L := by rw [show (nI i + 4 : Int32) = nI (i + 4) from nI_add i 4]; exact vp_in_nI (by omega) (by omega)
  have v5 : vp_in (nI i + 5) L := by rw [show (nI i + 5 : Int32) = nI (i + 5) from nI_add i 5]; exact vp_in_nI (by omega) (by omega)
  have v6 : vp_in (nI i + 6) L := by rw [show (nI i + 6 : Int32) = nI (i + 6) from nI_add i 6]; exact vp_in_nI (by omega) (by omega)
  have v7 : vp_in (nI i + 7) L := by rw [show (nI i + 7 : Int32) = nI (i + 7) from nI_add i 7]; exact vp_in_nI (by omega) (by omega)
  refine b297_783 ?_
  simp only [jx_blk, jx_op, j1i_c, j2i_c, j1l_c, j2l_c, jil_c, j1r_c, jri_c, jrii_c, jril_c, jrl_c, jrr_c, j2i'_c, jdup_i, jdup_r, jdup2_c, jdup2_l, jpo_c, jli, jll, jlr, jat_0, jat_s, jst, jst2, jkill_i, jkill_r, jkill_l, jkill_n, jnone, jgv_0, jgv_1, jgv_2, jgv_3, jrv_s, jput_0, jput_1, jput_2, jput_3, jpop_0, jpop_1, jcl_s, jc1, jc2, jvi, Nat.reduceAdd, jol_i, jol_l, jol_n, List.map_cons, List.map_nil, List.sum_cons, List.sum_nil, jcI, jcL, jcR, Nat.zero_le, true_and, and_true, and_self, Nat.reduceLeDiff, gI_sI, gI_sL, gI_sR, gL_sI, gL_sL, gL_sR, gR_sI, gR_sL, gR_sR, gS_sI, gS_sL, gS_sR, gN_sI, gN_sL, gN_sR, true_or, or_true, false_or, or_false, Nat.reduceEqDiff, false_and, and_false, if_false, if_true, reduceIte, not_true_eq_false, not_false_eq_true, h0, h1, h2, a1, a2, v1, v2, v3, v4, v5, v6, v7]
  refine jC_post (R _ _ _ hI) ?_
  rintro r ν ⟨hr, hg, hs, h3⟩
  simp only [if_true, if_false, Bool.false_eq_true] at hr
  obtain ⟨x, rfl⟩ := hr
  simp only [jx_blk, jx_op, j1i_c, j2i_c, j1l_c, j2l_c, jil_c, j1r_c, jri_c, jrii_c, jril_c, jrl_c, jrr_c, j2i'_c, jdup_i, jdup_r, jdup2_c, jdup2_l, jpo_c, jli, jll, jlr, jat_0, jat_s, jst, jst2, jkill_i, jkill_r, jkill_l, jkill_n, jnone, jgv_0, jgv_1, jgv_2, jgv_3, jrv_s, jput_0, jput_1, jput_2, jput_3, jpop_0, jpop_1, jcl_s, jc1, jc2, jvi, Nat.reduceAdd, jol_i, jol_l, jol_n, List.map_cons, List.map_nil, List.sum_cons, List.sum_nil, jcI, jcL, jcR, Nat.zero_le, true_and, and_true, and_self, Nat.reduceLeDiff, gI_sI, gI_sL, gI_sR, gL_sI, gL_sL, gL_sR, gR_sI, gR_sL, gR_sR, gS_sI, gS_sL, gS_sR, gN_sI, gN_sL, gN_sR, true_or, or_true, false_or, or_false, Nat.reduceEqDiff, false_and, and_false, if_false, if_true, reduceIte, not_true_eq_false, not_false_eq_true, hs, h0, h1, h2, a1, a2, v1, v2, v3, v4, v5, v6, v7, hg]
  refine jC_post h3 ?_
  rintro r2 ν2 ⟨rfl, hI2⟩
  simp only [jx_blk, jx_op, j1i_c, j2i_c, j1l_c, j2l_c, jil_c, j1r_c, jri_c, jrii_c, jril_c, jrl_c, jrr_c, j2i'_c, jdup_i, jdup_r, jdup2_c, jdup2_l, jpo_c, jli, jll, jlr, jat_0, jat_s, jst, jst2, jkill_i, jkill_r, jkill_l, jkill_n, jnone, jgv_0, jgv_1, jgv_2, jgv_3, jrv_s, jput_0, jput_1, jput_2, jput_3, jpop_0, jpop_1, jcl_s, jc1, jc2, jvi, Nat.reduceAdd, jol_i, jol_l, jol_n, List.map_cons, List.map_nil, List.sum_cons, List.sum_nil, jcI, jcL, jcR, Nat.zero_le, true_and, and_true, and_self, Nat.reduceLeDiff, gI_sI, gI_sL, gI_sR, gL_sI, gL_sL, gL_sR, gR_sI, gR_sL, gR_sR, gS_sI, gS_sL, gS_sR, gN_sI, gN_sL, gN_sR, true_or, or_true, false_or, or_false, Nat.reduceEqDiff, false_and, and_false, if_false, if_true, reduceIte, not_true_eq_false, not_false_eq_true, a1, a2]
  exact ⟨fun _ => K ν2 hI2, fun h => by first | exact False.elim h | exact absurd (lcmp0 _) h⟩
set_option maxRecDepth 100000 in
theorem lk_17 {d i L : Nat} {al : Nat × Nat} {μ : jMem} {Q : jQ} {I : Nat → jMem → Prop} (hSh : jShp I) (R : ∀ L μ (x0 : Int32) (x1 : Int32) (x2 : Int32) (x3 : Int32), I L μ → jRel d 156 251 [.int x0, .int x1, .int x2, .int x3] I L false μ) (hI : I L μ) (hi : i + 8 ≤ L) (hL : L ≤ 4096) (a1 : al.1 ≤ jmC 297) (a2 : al.2 ≤ jmS 297) (K : ∀ ν, I L ν → jR (d + 1) 297 1501 [some (.ref 0), some (.ref 1), some (.ref 133), some (.int (nI i))] [] al ν Q) : jR (d + 1) 297 806 [some (.ref 0), some (.ref 1), some (.ref 133), some (.int (nI i))] [] al μ Q := by
  obtain ⟨h0, h1, h2⟩ := hSh L μ hI
  have v1 : vp_in (nI i + 1) L := by rw [show (nI i + 1 : Int32) = nI (i + 1) from nI_add i 1]; exact vp_in_nI (by omega) (by omega)
  have v2 : vp_in (nI i + 2) L := by rw [show (nI i + 2 : Int32) = nI (i + 2) from nI_add i 2]; exact vp_in_nI (by omega) (by omega)
  have v3 : vp_in (nI i + 3) L := by rw [show (nI i + 3 : Int32) = nI (i + 3) from nI_add i 3]; exact vp_in_nI (by omega) (by omega)
  have v4 : vp_in (nI i + 4) L := by rw [show (nI i + 4 : Int32) = nI (i + 4) from nI_add i 4]; exact vp_in_nI (by omega) (by omega)
  have v5 : vp_in (nI i + 5) L := by rw [show (nI i + 5 : Int32) = nI (i + 5) from nI_add i 5]; exact vp_in_nI (by omega) (by omega)
  have v6 : vp_in (nI i + 6) L := by rw [show (nI i + 6 : Int32) = nI (i + 6) from nI_add i 6]; exact vp_in_nI (by omega) (by omega)
  have v7 : vp_in (nI i + 7) L := by rw [show (nI i + 7 : Int32) = nI (i + 7) from nI_add i 7]; exact vp_in_nI (by omega) (by omega)
  refine b297_806 ?_
  simp only [jx_blk, jx_op, j1i_c, j2i_c, j1l_c, j2l_c, jil_c, j1r_c, jri_c, jrii_c, jril_c, jrl_c, jrr_c, j2i'_c, jdup_i, jdup_r, jdup2_c, jdup2_l, jpo_c, jli, jll, jlr, jat_0, jat_s, jst, jst2, jkill_i, jkill_r, jkill_l, jkill_n, jnone, jgv_0, jgv_1, jgv_2, jgv_3, jrv_s, jput_0, jput_1, jput_2, jput_3, jpop_0, jpop_1, jcl_s, jc1, jc2, jvi, Nat.reduceAdd, jol_i, jol_l, jol_n, List.map_cons, List.map_nil, List.sum_cons, List.sum_nil, jcI, jcL, jcR, Nat.zero_le, true_and, and_true, and_self, Nat.reduceLeDiff, gI_sI, gI_sL, gI_sR, gL_sI, gL_sL, gL_sR, gR_sI, gR_sL, gR_sR, gS_sI, gS_sL, gS_sR, gN_sI, gN_sL, gN_sR, true_or, or_true, false_or, or_false, Nat.reduceEqDiff, false_and, and_false, if_false, if_true, reduceIte, not_true_eq_false, not_false_eq_true, h0, h1, h2, a1, a2, v1, v2, v3, v4, v5, v6, v7]
  refine jC_post (R _ _ _ _ _ _ hI) ?_
  rintro r ν ⟨hr, hg, hs, h3⟩
  simp only [if_true, if_false, Bool.false_eq_true] at hr
  obtain ⟨x, rfl⟩ := hr
  simp only [jx_blk, jx_op, j1i_c, j2i_c, j1l_c, j2l_c, jil_c, j1r_c, jri_c, jrii_c, jril_c, jrl_c, jrr_c, j2i'_c, jdup_i, jdup_r, jdup2_c, jdup2_l, jpo_c, jli, jll, jlr, jat_0, jat_s, jst, jst2, jkill_i, jkill_r, jkill_l, jkill_n, jnone, jgv_0, jgv_1, jgv_2, jgv_3, jrv_s, jput_0, jput_1, jput_2, jput_3, jpop_0, jpop_1, jcl_s, jc1, jc2, jvi, Nat.reduceAdd, jol_i, jol_l, jol_n, List.map_cons, List.map_nil, List.sum_cons, List.sum_nil, jcI, jcL, jcR, Nat.zero_le, true_and, and_true, and_self, Nat.reduceLeDiff, gI_sI, gI_sL, gI_sR, gL_sI, gL_sL, gL_sR, gR_sI, gR_sL, gR_sR, gS_sI, gS_sL, gS_sR, gN_sI, gN_sL, gN_sR, true_or, or_true, false_or, or_false, Nat.reduceEqDiff, false_and, and_false, if_false, if_true, reduceIte, not_true_eq_false, not_false_eq_true, hs, h0, h1, h2, a1, a2, v1, v2, v3, v4, v5, v6, v7, hg]
  refine jC_post h3 ?_
  rintro r2 ν2 ⟨rfl, hI2⟩
  simp only [jx_blk, jx_op, j1i_c, j2i_c, j1l_c, j2l_c, jil_c, j1r_c, jri_c, jrii_c, jril_c, jrl_c, jrr_c, j2i'_c, jdup_i, jdup_r, jdup2_c, jdup2_l, jpo_c, jli, jll, jlr, jat_0, jat_s, jst, jst2, jkill_i, jkill_r, jkill_l, jkill_n, jnone, jgv_0, jgv_1, jgv_2, jgv_3, jrv_s, jput_0, jput_1, jput_2, jput_3, jpop_0, jpop_1, jcl_s, jc1, jc2, jvi, Nat.reduceAdd, jol_i, jol_l, jol_n, List.map_cons, List.map_nil, List.sum_cons, List.sum_nil, jcI, jcL, jcR, Nat.zero_le, true_and, and_true, and_self, Nat.reduceLeDiff, gI_sI, gI_sL, gI_sR, gL_sI, gL_sL, gL_sR, gR_sI, gR_sL, gR_sR, gS_sI, gS_sL, gS_sR, gN_sI, gN_sL, gN_sR, true_or, or_true, false_or, or_false, Nat.reduceEqDiff, false_and, and_false, if_false, if_true, reduceIte, not_true_eq_false, not_false_eq_true, a1, a2]
  exact ⟨fun _ => K ν2 hI2, fun h => by first | exact False.elim h | exact absurd (lcmp0 _) h⟩
set_option maxRecDepth 100000 in
theorem lk_18 {d i L : Nat} {al : Nat × Nat} {μ : jMem} {Q : jQ} {I : Nat → jMem → Prop} (hSh : jShp I) (R : ∀ L μ (x0 : Int32) (x1 : Int32) (x2 : Int32), I L μ → jRel d 157 252 [.int x0, .int x1, .int x2] I L false μ) (hI : I L μ) (hi : i + 8 ≤ L) (hL : L ≤ 4096) (a1 : al.1 ≤ jmC 297) (a2 : al.2 ≤ jmS 297) (K : ∀ ν, I L ν → jR (d + 1) 297 1501 [some (.ref 0), some (.ref 1), some (.ref 133), some (.int (nI i))] [] al ν Q) : jR (d + 1) 297 859 [some (.ref 0), some (.ref 1), some (.ref 133), some (.int (nI i))] [] al μ Q := by
  obtain ⟨h0, h1, h2⟩ := hSh L μ hI
  have v1 : vp_in (nI i + 1) L := by rw [show (nI i + 1 : Int32) = nI (i + 1) from nI_add i 1]; exact vp_in_nI (by omega) (by omega)
  have v2 : vp_in (nI i + 2) L := by rw [show (nI i + 2 : Int32) = nI (i + 2) from nI_add i 2]; exact vp_in_nI (by omega) (by omega)
  have v3 : vp_in (nI i + 3) L := by rw [show (nI i + 3 : Int32) = nI (i + 3) from nI_add i 3]; exact vp_in_nI (by omega) (by omega)
  have v4 : vp_in (nI i + 4) L := by rw [show (nI i + 4 : Int32) = nI (i + 4) from nI_add i 4]; exact vp_in_nI (by omega) (by omega)
  have v5 : vp_in (nI i + 5) L := by rw [show (nI i + 5 : Int32) = nI (i + 5) from nI_add i 5]; exact vp_in_nI (by omega) (by omega)
  have v6 : vp_in (nI i + 6) L := by rw [show (nI i + 6 : Int32) = nI (i + 6) from nI_add i 6]; exact vp_in_nI (by omega) (by omega)
  have v7 : vp_in (nI i + 7) L := by rw [show (nI i + 7 : Int32) = nI (i + 7) from nI_add i 7]; exact vp_in_nI (by omega) (by omega)
  refine b297_859 ?_
  simp only [jx_blk, jx_op, j1i_c, j2i_c, j1l_c, j2l_c, jil_c, j1r_c, jri_c, jrii_c, jril_c, jrl_c, jrr_c, j2i'_c, jdup_i, jdup_r, jdup2_c, jdup2_l, jpo_c, jli, jll, jlr, jat_0, jat_s, jst, jst2, jkill_i, jkill_r, jkill_l, jkill_n, jnone, jgv_0, jgv_1, jgv_2, jgv_3, jrv_s, jput_0, jput_1, jput_2, jput_3, jpop_0, jpop_1, jcl_s, jc1, jc2, jvi, Nat.reduceAdd, jol_i, jol_l, jol_n, List.map_cons, List.map_nil, List.sum_cons, List.sum_nil, jcI, jcL, jcR, Nat.zero_le, true_and, and_true, and_self, Nat.reduceLeDiff, gI_sI, gI_sL, gI_sR, gL_sI, gL_sL, gL_sR, gR_sI, gR_sL, gR_sR, gS_sI, gS_sL, gS_sR, gN_sI, gN_sL, gN_sR, true_or, or_true, false_or, or_false, Nat.reduceEqDiff, false_and, and_false, if_false, if_true, reduceIte, not_true_eq_false, not_false_eq_true, h0, h1, h2, a1, a2, v1, v2, v3, v4, v5, v6, v7]
  refine jC_post (R _ _ _ _ _ hI) ?_
  rintro r ν ⟨hr, hg, hs, h3⟩
  simp only [if_true, if_false, Bool.false_eq_true] at hr
  obtain ⟨x, rfl⟩ := hr
  simp only [jx_blk, jx_op, j1i_c, j2i_c, j1l_c, j2l_c, jil_c, j1r_c, jri_c, jrii_c, jril_c, jrl_c, jrr_c, j2i'_c, jdup_i, jdup_r, jdup2_c, jdup2_l, jpo_c, jli, jll, jlr, jat_0, jat_s, jst, jst2, jkill_i, jkill_r, jkill_l, jkill_n, jnone, jgv_0, jgv_1, jgv_2, jgv_3, jrv_s, jput_0, jput_1, jput_2, jput_3, jpop_0, jpop_1, jcl_s, jc1, jc2, jvi, Nat.reduceAdd, jol_i, jol_l, jol_n, List.map_cons, List.map_nil, List.sum_cons, List.sum_nil, jcI, jcL, jcR, Nat.zero_le, true_and, and_true, and_self, Nat.reduceLeDiff, gI_sI, gI_sL, gI_sR, gL_sI, gL_sL, gL_sR, gR_sI, gR_sL, gR_sR, gS_sI, gS_sL, gS_sR, gN_sI, gN_sL, gN_sR, true_or, or_true, false_or, or_false, Nat.reduceEqDiff, false_and, and_false, if_false, if_true, reduceIte, not_true_eq_false, not_false_eq_true, hs, h0, h1, h2, a1, a2, v1, v2, v3, v4, v5, v6, v7, hg]
  refine jC_post h3 ?_
  rintro r2 ν2 ⟨rfl, hI2⟩
  simp only [jx_blk, jx_op, j1i_c, j2i_c, j1l_c, j2l_c, jil_c, j1r_c, jri_c, jrii_c, jril_c, jrl_c, jrr_c, j2i'_c, jdup_i, jdup_r, jdup2_c, jdup2_l, jpo_c, jli, jll, jlr, jat_0, jat_s, jst, jst2, jkill_i, jkill_r, jkill_l, jkill_n, jnone, jgv_0, jgv_1, jgv_2, jgv_3, jrv_s, jput_0, jput_1, jput_2, jput_3, jpop_0, jpop_1, jcl_s, jc1, jc2, jvi, Nat.reduceAdd, jol_i, jol_l, jol_n, List.map_cons, List.map_nil, List.sum_cons, List.sum_nil, jcI, jcL, jcR, Nat.zero_le, true_and, and_true, and_self, Nat.reduceLeDiff, gI_sI, gI_sL, gI_sR, gL_sI, gL_sL, gL_sR, gR_sI, gR_sL, gR_sR, gS_sI, gS_sL, gS_sR, gN_sI, gN_sL, gN_sR, true_or, or_true, false_or, or_false, Nat.reduceEqDiff, false_and, and_false, if_false, if_true, reduceIte, not_true_eq_false, not_false_eq_true, a1, a2]
  exact ⟨fun _ => K ν2 hI2, fun h => by first | exact False.elim h | exact absurd (lcmp0 _) h⟩
set_option maxRecDepth 100000 in
theorem lk_19 {d i L : Nat} {al : Nat × Nat} {μ : jMem} {Q : jQ} {I : Nat → jMem → Prop} (hSh : jShp I) (R : ∀ L μ (x0 : Int32) (x1 : Int32), I L μ → jRel d 158 255 [.int x0, .int x1] I L false μ) (hI : I L μ) (hi : i + 8 ≤ L) (hL : L ≤ 4096) (a1 : al.1 ≤ jmC 297) (a2 : al.2 ≤ jmS 297) (K : ∀ ν, I L ν → jR (d + 1) 297 1501 [some (.ref 0), some (.ref 1), some (.ref 133), some (.int (nI i))] [] al ν Q) : jR (d + 1) 297 902 [some (.ref 0), some (.ref 1), some (.ref 133), some (.int (nI i))] [] al μ Q := by
  obtain ⟨h0, h1, h2⟩ := hSh L μ hI
  have v1 : vp_in (nI i + 1) L := by rw [show (nI i + 1 : Int32) = nI (i + 1) from nI_add i 1]; exact vp_in_nI (by omega) (by omega)
  have v2 : vp_in (nI i + 2) L := by rw [show (nI i + 2 : Int32) = nI (i + 2) from nI_add i 2]; exact vp_in_nI (by omega) (by omega)
  have v3 : vp_in (nI i + 3) L := by rw [show (nI i + 3 : Int32) = nI (i + 3) from nI_add i 3]; exact vp_in_nI (by omega) (by omega)
  have v4 : vp_in (nI i + 4) L := by rw [show (nI i + 4 : Int32) = nI (i + 4) from nI_add i 4]; exact vp_in_nI (by omega) (by omega)
  have v5 : vp_in (nI i + 5) L := by rw [show (nI i + 5 : Int32) = nI (i + 5) from nI_add i 5]; exact vp_in_nI (by omega) (by omega)
  have v6 : vp_in (nI i + 6) L := by rw [show (nI i + 6 : Int32) = nI (i + 6) from nI_add i 6]; exact vp_in_nI (by omega) (by omega)
  have v7 : vp_in (nI i + 7) L := by rw [show (nI i + 7 : Int32) = nI (i + 7) from nI_add i 7]; exact vp_in_nI (by omega) (by omega)
  refine b297_902 ?_
  simp only [jx_blk, jx_op, j1i_c, j2i_c, j1l_c, j2l_c, jil_c, j1r_c, jri_c, jrii_c, jril_c, jrl_c, jrr_c, j2i'_c, jdup_i, jdup_r, jdup2_c, jdup2_l, jpo_c, jli, jll, jlr, jat_0, jat_s, jst, jst2, jkill_i, jkill_r, jkill_l, jkill_n, jnone, jgv_0, jgv_1, jgv_2, jgv_3, jrv_s, jput_0, jput_1, jput_2, jput_3, jpop_0, jpop_1, jcl_s, jc1, jc2, jvi, Nat.reduceAdd, jol_i, jol_l, jol_n, List.map_cons, List.map_nil, List.sum_cons, List.sum_nil, jcI, jcL, jcR, Nat.zero_le, true_and, and_true, and_self, Nat.reduceLeDiff, gI_sI, gI_sL, gI_sR, gL_sI, gL_sL, gL_sR, gR_sI, gR_sL, gR_sR, gS_sI, gS_sL, gS_sR, gN_sI, gN_sL, gN_sR, true_or, or_true, false_or, or_false, Nat.reduceEqDiff, false_and, and_false, if_false, if_true, reduceIte, not_true_eq_false, not_false_eq_true, h0, h1, h2, a1, a2, v1, v2, v3, v4, v5, v6, v7]
  refine jC_post (R _ _ _ _ hI) ?_
  rintro r ν ⟨hr, hg, hs, h3⟩
  simp only [if_true, if_false, Bool.false_eq_true] at hr
  obtain ⟨x, rfl⟩ := hr
  simp only [jx_blk, jx_op, j1i_c, j2i_c, j1l_c, j2l_c, jil_c, j1r_c, jri_c, jrii_c, jril_c, jrl_c, jrr_c, j2i'_c, jdup_i, jdup_r, jdup2_c, jdup2_l, jpo_c, jli, jll, jlr, jat_0, jat_s, jst, jst2, jkill_i, jkill_r, jkill_l, jkill_n, jnone, jgv_0, jgv_1, jgv_2, jgv_3, jrv_s, jput_0, jput_1, jput_2, jput_3, jpop_0, jpop_1, jcl_s, jc1, jc2, jvi, Nat.reduceAdd, jol_i, jol_l, jol_n, List.map_cons, List.map_nil, List.sum_cons, List.sum_nil, jcI, jcL, jcR, Nat.zero_le, true_and, and_true, and_self, Nat.reduceLeDiff, gI_sI, gI_sL, gI_sR, gL_sI, gL_sL, gL_sR, gR_sI, gR_sL, gR_sR, gS_sI, gS_sL, gS_sR, gN_sI, gN_sL, gN_sR, true_or, or_true, false_or, or_false, Nat.reduceEqDiff, false_and, and_false, if_false, if_true, reduceIte, not_true_eq_false, not_false_eq_true, hs, h0, h1, h2, a1, a2, v1, v2, v3, v4, v5, v6, v7, hg]
  refine jC_post h3 ?_
  rintro r2 ν2 ⟨rfl, hI2⟩
  simp only [jx_blk, jx_op, j1i_c, j2i_c, j1l_c, j2l_c, jil_c, j1r_c, jri_c, jrii_c, jril_c, jrl_c, jrr_c, j2i'_c, jdup_i, jdup_r, jdup2_c, jdup2_l, jpo_c, jli, jll, jlr, jat_0, jat_s, jst, jst2, jkill_i, jkill_r, jkill_l, jkill_n, jnone, jgv_0, jgv_1, jgv_2, jgv_3, jrv_s, jput_0, jput_1, jput_2, jput_3, jpop_0, jpop_1, jcl_s, jc1, jc2, jvi, Nat.reduceAdd, jol_i, jol_l, jol_n, List.map_cons, List.map_nil, List.sum_cons, List.sum_nil, jcI, jcL, jcR, Nat.zero_le, true_and, and_true, and_self, Nat.reduceLeDiff, gI_sI, gI_sL, gI_sR, gL_sI, gL_sL, gL_sR, gR_sI, gR_sL, gR_sR, gS_sI, gS_sL, gS_sR, gN_sI, gN_sL, gN_sR, true_or, or_true, false_or, or_false, Nat.reduceEqDiff, false_and, and_false, if_false, if_true, reduceIte, not_true_eq_false, not_false_eq_true, a1, a2]
  exact ⟨fun _ => K ν2 hI2, fun h => by first | exact False.elim h | exact absurd (lcmp0 _) h⟩
set_option maxRecDepth 100000 in
theorem lk_20 {d i L : Nat} {al : Nat × Nat} {μ : jMem} {Q : jQ} {I : Nat → jMem → Prop} (hSh : jShp I) (R : ∀ L μ (x0 : Int32) (x1 : Int32), I L μ → jRel d 159 256 [.int x0, .int x1] I L false μ) (hI : I L μ) (hi : i + 8 ≤ L) (hL : L ≤ 4096) (a1 : al.1 ≤ jmC 297) (a2 : al.2 ≤ jmS 297) (K : ∀ ν, I L ν → jR (d + 1) 297 1501 [some (.ref 0), some (.ref 1), some (.ref 133), some (.int (nI i))] [] al ν Q) : jR (d + 1) 297 935 [some (.ref 0), some (.ref 1), some (.ref 133), some (.int (nI i))] [] al μ Q := by
  obtain ⟨h0, h1, h2⟩ := hSh L μ hI
  have v1 : vp_in (nI i + 1) L := by rw [show (nI i + 1 : Int32) = nI (i + 1) from nI_add i 1]; exact vp_in_nI (by omega) (by omega)
  have v2 : vp_in (nI i + 2) L := by rw [show (nI i + 2 : Int32) = nI (i + 2) from nI_add i 2]; exact vp_in_nI (by omega) (by omega)
  have v3 : vp_in (nI i + 3) L := by rw [show (nI i + 3 : Int32) = nI (i + 3) from nI_add i 3]; exact vp_in_nI (by omega) (by omega)
  have v4 : vp_in (nI i + 4) L := by rw [show (nI i + 4 : Int32) = nI (i + 4) from nI_add i 4]; exact vp_in_nI (by omega) (by omega)
  have v5 : vp_in (nI i + 5) L := by rw [show (nI i + 5 : Int32) = nI (i + 5) from nI_add i 5]; exact vp_in_nI (by omega) (by omega)
  have v6 : vp_in (nI i + 6) L := by rw [show (nI i + 6 : Int32) = nI (i + 6) from nI_add i 6]; exact vp_in_nI (by omega) (by omega)
  have v7 : vp_in (nI i + 7) L := by rw [show (nI i + 7 : Int32) = nI (i + 7) from nI_add i 7]; exact vp_in_nI (by omega) (by omega)
  refine b297_935 ?_
  simp only [jx_blk, jx_op, j1i_c, j2i_c, j1l_c, j2l_c, jil_c, j1r_c, jri_c, jrii_c, jril_c, jrl_c, jrr_c, j2i'_c, jdup_i, jdup_r, jdup2_c, jdup2_l, jpo_c, jli, jll, jlr, jat_0, jat_s, jst, jst2, jkill_i, jkill_r, jkill_l, jkill_n, jnone, jgv_0, jgv_1, jgv_2, jgv_3, jrv_s, jput_0, jput_1, jput_2, jput_3, jpop_0, jpop_1, jcl_s, jc1, jc2, jvi, Nat.reduceAdd, jol_i, jol_l, jol_n, List.map_cons, List.map_nil, List.sum_cons, List.sum_nil, jcI, jcL, jcR, Nat.zero_le, true_and, and_true, and_self, Nat.reduceLeDiff, gI_sI, gI_sL, gI_sR, gL_sI, gL_sL, gL_sR, gR_sI, gR_sL, gR_sR, gS_sI, gS_sL, gS_sR, gN_sI, gN_sL, gN_sR, true_or, or_true, false_or, or_false, Nat.reduceEqDiff, false_and, and_false, if_false, if_true, reduceIte, not_true_eq_false, not_false_eq_true, h0, h1, h2, a1, a2, v1, v2, v3, v4, v5, v6, v7]
  refine jC_post (R _ _ _ _ hI) ?_
  rintro r ν ⟨hr, hg, hs, h3⟩
  simp only [if_true, if_false, Bool.false_eq_true] at hr
  obtain ⟨x, rfl⟩ := hr
  simp only [jx_blk, jx_op, j1i_c, j2i_c, j1l_c, j2l_c, jil_c, j1r_c, jri_c, jrii_c, jril_c, jrl_c, jrr_c, j2i'_c, jdup_i, jdup_r, jdup2_c, jdup2_l, jpo_c, jli, jll, jlr, jat_0, jat_s, jst, jst2, jkill_i, jkill_r, jkill_l, jkill_n, jnone, jgv_0, jgv_1, jgv_2, jgv_3, jrv_s, jput_0, jput_1, jput_2, jput_3, jpop_0, jpop_1, jcl_s, jc1, jc2, jvi, Nat.reduceAdd, jol_i, jol_l, jol_n, List.map_cons, List.map_nil, List.sum_cons, List.sum_nil, jcI, jcL, jcR, Nat.zero_le, true_and, and_true, and_self, Nat.reduceLeDiff, gI_sI, gI_sL, gI_sR, gL_sI, gL_sL, gL_sR, gR_sI, gR_sL, gR_sR, gS_sI, gS_sL, gS_sR, gN_sI, gN_sL, gN_sR, true_or, or_true, false_or, or_false, Nat.reduceEqDiff, false_and, and_false, if_false, if_true, reduceIte, not_true_eq_false, not_false_eq_true, hs, h0, h1, h2, a1, a2, v1, v2, v3, v4, v5, v6, v7, hg]
  refine jC_post h3 ?_
  rintro r2 ν2 ⟨rfl, hI2⟩
  simp only [jx_blk, jx_op, j1i_c, j2i_c, j1l_c, j2l_c, jil_c, j1r_c, jri_c, jrii_c, jril_c, jrl_c, jrr_c, j2i'_c, jdup_i, jdup_r, jdup2_c, jdup2_l, jpo_c, jli, jll, jlr, jat_0, jat_s, jst, jst2, jkill_i, jkill_r, jkill_l, jkill_n, jnone, jgv_0, jgv_1, jgv_2, jgv_3, jrv_s, jput_0, jput_1, jput_2, jput_3, jpop_0, jpop_1, jcl_s, jc1, jc2, jvi, Nat.reduceAdd, jol_i, jol_l, jol_n, List.map_cons, List.map_nil, List.sum_cons, List.sum_nil, jcI, jcL, jcR, Nat.zero_le, true_and, and_true, and_self, Nat.reduceLeDiff, gI_sI, gI_sL, gI_sR, gL_sI, gL_sL, gL_sR, gR_sI, gR_sL, gR_sR, gS_sI, gS_sL, gS_sR, gN_sI, gN_sL, gN_sR, true_or, or_true, false_or, or_false, Nat.reduceEqDiff, false_and, and_false, if_false, if_true, reduceIte, not_true_eq_false, not_false_eq_true, a1, a2]
  exact ⟨fun _ => K ν2 hI2, fun h => by first | exact False.elim h | exact absurd (lcmp0 _) h⟩
set_option maxRecDepth 100000 in
theorem lk_21 {d i L : Nat} {al : Nat × Nat} {μ : jMem} {Q : jQ} {I : Nat → jMem → Prop} (hSh : jShp I) (R : ∀ L μ (x0 : Int32) (x1 : Int32), I L μ → jRel d 160 257 [.int x0, .int x1] I L false μ) (hI : I L μ) (hi : i + 8 ≤ L) (hL : L ≤ 4096) (a1 : al.1 ≤ jmC 297) (a2 : al.2 ≤ jmS 297) (K : ∀ ν, I L ν → jR (d + 1) 297 1501 [some (.ref 0), some (.ref 1), some (.ref 133), some (.int (nI i))] [] al ν Q) : jR (d + 1) 297 968 [some (.ref 0), some (.ref 1), some (.ref 133), some (.int (nI i))] [] al μ Q := by
  obtain ⟨h0, h1, h2⟩ := hSh L μ hI
  have v1 : vp_in (nI i + 1) L := by rw [show (nI i + 1 : Int32) = nI (i + 1) from nI_add i 1]; exact vp_in_nI (by omega) (by omega)
  have v2 : vp_in (nI i + 2) L := by rw [show (nI i + 2 : Int32) = nI (i + 2) from nI_add i 2]; exact vp_in_nI (by omega) (by omega)
  have v3 : vp_in (nI i + 3) L := by rw [show (nI i + 3 : Int32) = nI (i + 3) from nI_add i 3]; exact vp_in_nI (by omega) (by omega)
  have v4 : vp_in (nI i + 4) L := by rw [show (nI i + 4 : Int32) = nI (i + 4) from nI_add i 4]; exact vp_in_nI (by omega) (by omega)
  have v5 : vp_in (nI i + 5) L := by rw [show (nI i + 5 : Int32) = nI (i + 5) from nI_add i 5]; exact vp_in_nI (by omega) (by omega)
  have v6 : vp_in (nI i + 6) L := by rw [show (nI i + 6 : Int32) = nI (i + 6) from nI_add i 6]; exact vp_in_nI (by omega) (by omega)
  have v7 : vp_in (nI i + 7) L := by rw [show (nI i + 7 : Int32) = nI (i + 7) from nI_add i 7]; exact vp_in_nI (by omega) (by omega)
  refine b297_968 ?_
  simp only [jx_blk, jx_op, j1i_c, j2i_c, j1l_c, j2l_c, jil_c, j1r_c, jri_c, jrii_c, jril_c, jrl_c, jrr_c, j2i'_c, jdup_i, jdup_r, jdup2_c, jdup2_l, jpo_c, jli, jll, jlr, jat_0, jat_s, jst, jst2, jkill_i, jkill_r, jkill_l, jkill_n, jnone, jgv_0, jgv_1, jgv_2, jgv_3, jrv_s, jput_0, jput_1, jput_2, jput_3, jpop_0, jpop_1, jcl_s, jc1, jc2, jvi, Nat.reduceAdd, jol_i, jol_l, jol_n, List.map_cons, List.map_nil, List.sum_cons, List.sum_nil, jcI, jcL, jcR, Nat.zero_le, true_and, and_true, and_self, Nat.reduceLeDiff, gI_sI, gI_sL, gI_sR, gL_sI, gL_sL, gL_sR, gR_sI, gR_sL, gR_sR, gS_sI, gS_sL, gS_sR, gN_sI, gN_sL, gN_sR, true_or, or_true, false_or, or_false, Nat.reduceEqDiff, false_and, and_false, if_false, if_true, reduceIte, not_true_eq_false, not_false_eq_true, h0, h1, h2, a1, a2, v1, v2, v3, v4, v5, v6, v7]
  refine jC_post (R _ _ _ _ hI) ?_
  rintro r ν ⟨hr, hg, hs, h3⟩
  simp only [if_true, if_false, Bool.false_eq_true] at hr
  obtain ⟨x, rfl⟩ := hr
  simp only [jx_blk, jx_op, j1i_c, j2i_c, j1l_c, j2l_c, jil_c, j1r_c, jri_c, jrii_c, jril_c, jrl_c, jrr_c, j2i'_c, jdup_i, jdup_r, jdup2_c, jdup2_l, jpo_c, jli, jll, jlr, jat_0, jat_s, jst, jst2, jkill_i, jkill_r, jkill_l, jkill_n, jnone, jgv_0, jgv_1, jgv_2, jgv_3, jrv_s, jput_0, jput_1, jput_2, jput_3, jpop_0, jpop_1, jcl_s, jc1, jc2, jvi, Nat.reduceAdd, jol_i, jol_l, jol_n, List.map_cons, List.map_nil, List.sum_cons, List.sum_nil, jcI, jcL, jcR, Nat.zero_le, true_and, and_true, and_self, Nat.reduceLeDiff, gI_sI, gI_sL, gI_sR, gL_sI, gL_sL, gL_sR, gR_sI, gR_sL, gR_sR, gS_sI, gS_sL, gS_sR, gN_sI, gN_sL, gN_sR, true_or, or_true, false_or, or_false, Nat.reduceEqDiff, false_and, and_false, if_false, if_true, reduceIte, not_true_eq_false, not_false_eq_true, hs, h0, h1, h2, a1, a2, v1, v2, v3, v4, v5, v6, v7, hg]
  refine jC_post h3 ?_
  rintro r2 ν2 ⟨rfl, hI2⟩
  simp only [jx_blk, jx_op, j1i_c, j2i_c, j1l_c, j2l_c, jil_c, j1r_c, jri_c, jrii_c, jril_c, jrl_c, jrr_c, j2i'_c, jdup_i, jdup_r, jdup2_c, jdup2_l, jpo_c, jli, jll, jlr, jat_0, jat_s, jst, jst2, jkill_i, jkill_r, jkill_l, jkill_n, jnone, jgv_0, jgv_1, jgv_2, jgv_3, jrv_s, jput_0, jput_1, jput_2, jput_3, jpop_0, jpop_1, jcl_s, jc1, jc2, jvi, Nat.reduceAdd, jol_i, jol_l, jol_n, List.map_cons, List.map_nil, List.sum_cons, List.sum_nil, jcI, jcL, jcR, Nat.zero_le, true_and, and_true, and_self, Nat.reduceLeDiff, gI_sI, gI_sL, gI_sR, gL_sI, gL_sL, gL_sR, gR_sI, gR_sL, gR_sR, gS_sI, gS_sL, gS_sR, gN_sI, gN_sL, gN_sR, true_or, or_true, false_or, or_false, Nat.reduceEqDiff, false_and, and_false, if_false, if_true, reduceIte, not_true_eq_false, not_false_eq_true, a1, a2]
  exact ⟨fun _ => K ν2 hI2, fun h => by first | exact False.elim h | exact absurd (lcmp0 _) h⟩
set_option maxRecDepth 100000 in
theorem lk_22 {d i L : Nat} {al : Nat × Nat} {μ : jMem} {Q : jQ} {I : Nat → jMem → Prop} (hSh : jShp I) (R : ∀ L μ (x0 : Int32), I L μ → jRel d 161 260 [.int x0] I L false μ) (hI : I L μ) (hi : i + 8 ≤ L) (hL : L ≤ 4096) (a1 : al.1 ≤ jmC 297) (a2 : al.2 ≤ jmS 297) (K : ∀ ν, I L ν → jR (d + 1) 297 1501 [some (.ref 0), some (.ref 1), some (.ref 133), some (.int (nI i))] [] al ν Q) : jR (d + 1) 297 1001 [some (.ref 0), some (.ref 1), some (.ref 133), some (.int (nI i))] [] al μ Q := by
  obtain ⟨h0, h1, h2⟩ := hSh L μ hI
  have v1 : vp_in (nI i + 1) L := by rw [show (nI i + 1 : Int32) = nI (i + 1) from nI_add i 1]; exact vp_in_nI (by omega) (by omega)
  have v2 : vp_in (nI i + 2) L := by rw [show (nI i + 2 : Int32) = nI (i + 2) from nI_add i 2]; exact vp_in_nI (by omega) (by omega)
  have v3 : vp_in (nI i + 3) L := by rw [show (nI i + 3 : Int32) = nI (i + 3) from nI_add i 3]; exact vp_in_nI (by omega) (by omega)
  have v4 : vp_in (nI i + 4) L := by rw [show (nI i + 4 : Int32) = nI (i + 4) from nI_add i 4]; exact vp_in_nI (by omega) (by omega)
  have v5 : vp_in (nI i + 5) L := by rw [show (nI i + 5 : Int32) = nI (i + 5) from nI_add i 5]; exact vp_in_nI (by omega) (by omega)
  have v6 : vp_in (nI i + 6) L := by rw [show (nI i + 6 : Int32) = nI (i + 6) from nI_add i 6]; exact vp_in_nI (by omega) (by omega)
  have v7 : vp_in (nI i + 7) L := by rw [show (nI i + 7 : Int32) = nI (i + 7) from nI_add i 7]; exact vp_in_nI (by omega) (by omega)
  refine b297_1001 ?_
  simp only [jx_blk, jx_op, j1i_c, j2i_c, j1l_c, j2l_c, jil_c, j1r_c, jri_c, jrii_c, jril_c, jrl_c, jrr_c, j2i'_c, jdup_i, jdup_r, jdup2_c, jdup2_l, jpo_c, jli, jll, jlr, jat_0, jat_s, jst, jst2, jkill_i, jkill_r, jkill_l, jkill_n, jnone, jgv_0, jgv_1, jgv_2, jgv_3, jrv_s, jput_0, jput_1, jput_2, jput_3, jpop_0, jpop_1, jcl_s, jc1, jc2, jvi, Nat.reduceAdd, jol_i, jol_l, jol_n, List.map_cons, List.map_nil, List.sum_cons, List.sum_nil, jcI, jcL, jcR, Nat.zero_le, true_and, and_true, and_self, Nat.reduceLeDiff, gI_sI, gI_sL, gI_sR, gL_sI, gL_sL, gL_sR, gR_sI, gR_sL, gR_sR, gS_sI, gS_sL, gS_sR, gN_sI, gN_sL, gN_sR, true_or, or_true, false_or, or_false, Nat.reduceEqDiff, false_and, and_false, if_false, if_true, reduceIte, not_true_eq_false, not_false_eq_true, h0, h1, h2, a1, a2, v1, v2, v3, v4, v5, v6, v7]
  refine jC_post (R _ _ _ hI) ?_
  rintro r ν ⟨hr, hg, hs, h3⟩
  simp only [if_true, if_false, Bool.false_eq_true] at hr
  obtain ⟨x, rfl⟩ := hr
  simp only [jx_blk, jx_op, j1i_c, j2i_c, j1l_c, j2l_c, jil_c, j1r_c, jri_c, jrii_c, jril_c, jrl_c, jrr_c, j2i'_c, jdup_i, jdup_r, jdup2_c, jdup2_l, jpo_c, jli, jll, jlr, jat_0, jat_s, jst, jst2, jkill_i, jkill_r, jkill_l, jkill_n, jnone, jgv_0, jgv_1, jgv_2, jgv_3, jrv_s, jput_0, jput_1, jput_2, jput_3, jpop_0, jpop_1, jcl_s, jc1, jc2, jvi, Nat.reduceAdd, jol_i, jol_l, jol_n, List.map_cons, List.map_nil, List.sum_cons, List.sum_nil, jcI, jcL, jcR, Nat.zero_le, true_and, and_true, and_self, Nat.reduceLeDiff, gI_sI, gI_sL, gI_sR, gL_sI, gL_sL, gL_sR, gR_sI, gR_sL, gR_sR, gS_sI, gS_sL, gS_sR, gN_sI, gN_sL, gN_sR, true_or, or_true, false_or, or_false, Nat.reduceEqDiff, false_and, and_false, if_false, if_true, reduceIte, not_true_eq_false, not_false_eq_true, hs, h0, h1, h2, a1, a2, v1, v2, v3, v4, v5, v6, v7, hg]
  refine jC_post h3 ?_
  rintro r2 ν2 ⟨rfl, hI2⟩
  simp only [jx_blk, jx_op, j1i_c, j2i_c, j1l_c, j2l_c, jil_c, j1r_c, jri_c, jrii_c, jril_c, jrl_c, jrr_c, j2i'_c, jdup_i, jdup_r, jdup2_c, jdup2_l, jpo_c, jli, jll, jlr, jat_0, jat_s, jst, jst2, jkill_i, jkill_r, jkill_l, jkill_n, jnone, jgv_0, jgv_1, jgv_2, jgv_3, jrv_s, jput_0, jput_1, jput_2, jput_3, jpop_0, jpop_1, jcl_s, jc1, jc2, jvi, Nat.reduceAdd, jol_i, jol_l, jol_n, List.map_cons, List.map_nil, List.sum_cons, List.sum_nil, jcI, jcL, jcR, Nat.zero_le, true_and, and_true, and_self, Nat.reduceLeDiff, gI_sI, gI_sL, gI_sR, gL_sI, gL_sL, gL_sR, gR_sI, gR_sL, gR_sR, gS_sI, gS_sL, gS_sR, gN_sI, gN_sL, gN_sR, true_or, or_true, false_or, or_false, Nat.reduceEqDiff, false_and, and_false, if_false, if_true, reduceIte, not_true_eq_false, not_false_eq_true, a1, a2]
  exact ⟨fun _ => K ν2 hI2, fun h => by first | exact False.elim h | exact absurd (lcmp0 _) h⟩
set_option maxRecDepth 100000 in
theorem lk_23 {d i L : Nat} {al : Nat × Nat} {μ : jMem} {Q : jQ} {I : Nat → jMem → Prop} (hSh : jShp I) (R : ∀ L μ (x0 : Int32) (x1 : Int32), I L μ → jRel d 162 261 [.int x0, .int x1] I L false μ) (hI : I L μ) (hi : i + 8 ≤ L) (hL : L ≤ 4096) (a1 : al.1 ≤ jmC 297) (a2 : al.2 ≤ jmS 297) (K : ∀ ν, I L ν → jR (d + 1) 297 1501 [some (.ref 0), some (.ref 1), some (.ref 133), some (.int (nI i))] [] al ν Q) : jR (d + 1) 297 1024 [some (.ref 0), some (.ref 1), some (.ref 133), some (.int (nI i))] [] al μ Q := by
  obtain ⟨h0, h1, h2⟩ := hSh L μ hI
  have v1 : vp_in (nI i + 1) L := by rw [show (nI i + 1 : Int32) = nI (i + 1) from nI_add i 1]; exact vp_in_nI (by omega) (by omega)
  have v2 : vp_in (nI i + 2) L := by rw [show (nI i + 2 : Int32) = nI (i + 2) from nI_add i 2]; exact vp_in_nI (by omega) (by omega)
  have v3 : vp_in (nI i + 3) L := by rw [show (nI i + 3 : Int32) = nI (i + 3) from nI_add i 3]; exact vp_in_nI (by omega) (by omega)
  have v4 : vp_in (nI i + 4) L := by rw [show (nI i + 4 : Int32) = nI (i + 4) from nI_add i 4]; exact vp_in_nI (by omega) (by omega)
  have v5 : vp_in (nI i + 5) L := by rw [show (nI i + 5 : Int32) = nI (i + 5) from nI_add i 5]; exact vp_in_nI (by omega) (by omega)
  have v6 : vp_in (nI i + 6) L := by rw [show (nI i + 6 : Int32) = nI (i + 6) from nI_add i 6]; exact vp_in_nI (by omega) (by omega)
  have v7 : vp_in (nI i + 7) L := by rw [show (nI i + 7 : Int32) = nI (i + 7) from nI_add i 7]; exact vp_in_nI (by omega) (by omega)
  refine b297_1024 ?_
  simp only [jx_blk, jx_op, j1i_c, j2i_c, j1l_c, j2l_c, jil_c, j1r_c, jri_c, jrii_c, jril_c, jrl_c, jrr_c, j2i'_c, jdup_i, jdup_r, jdup2_c, jdup2_l, jpo_c, jli, jll, jlr, jat_0, jat_s, jst, jst2, jkill_i, jkill_r, jkill_l, jkill_n, jnone, jgv_0, jgv_1, jgv_2, jgv_3, jrv_s, jput_0, jput_1, jput_2, jput_3, jpop_0, jpop_1, jcl_s, jc1, jc2, jvi, Nat.reduceAdd, jol_i, jol_l, jol_n, List.map_cons, List.map_nil, List.sum_cons, List.sum_nil, jcI, jcL, jcR, Nat.zero_le, true_and, and_true, and_self, Nat.reduceLeDiff, gI_sI, gI_sL, gI_sR, gL_sI, gL_sL, gL_sR, gR_sI, gR_sL, gR_sR, gS_sI, gS_sL, gS_sR, gN_sI, gN_sL, gN_sR, true_or, or_true, false_or, or_false, Nat.reduceEqDiff, false_and, and_false, if_false, if_true, reduceIte, not_true_eq_false, not_false_eq_true, h0, h1, h2, a1, a2, v1, v2, v3, v4, v5, v6, v7]
  refine jC_post (R _ _ _ _ hI) ?_
  rintro r ν ⟨hr, hg, hs, h3⟩
  simp only [if_true, if_false, Bool.false_eq_true] at hr
  obtain ⟨x, rfl⟩ := hr
  simp only [jx_blk, jx_op, j1i_c, j2i_c, j1l_c, j2l_c, jil_c, j1r_c, jri_c, jrii_c, jril_c, jrl_c, jrr_c, j2i'_c, jdup_i, jdup_r, jdup2_c, jdup2_l, jpo_c, jli, jll, jlr, jat_0, jat_s, jst, jst2, jkill_i, jkill_r, jkill_l, jkill_n, jnone, jgv_0, jgv_1, jgv_2, jgv_3, jrv_s, jput_0, jput_1, jput_2, jput_3, jpop_0, jpop_1, jcl_s, jc1, jc2, jvi, Nat.reduceAdd, jol_i, jol_l, jol_n, List.map_cons, List.map_nil, List.sum_cons, List.sum_nil, jcI, jcL, jcR, Nat.zero_le, true_and, and_true, and_self, Nat.reduceLeDiff, gI_sI, gI_sL, gI_sR, gL_sI, gL_sL, gL_sR, gR_sI, gR_sL, gR_sR, gS_sI, gS_sL, gS_sR, gN_sI, gN_sL, gN_sR, true_or, or_true, false_or, or_false, Nat.reduceEqDiff, false_and, and_false, if_false, if_true, reduceIte, not_true_eq_false, not_false_eq_true, hs, h0, h1, h2, a1, a2, v1, v2, v3, v4, v5, v6, v7, hg]
  refine jC_post h3 ?_
  rintro r2 ν2 ⟨rfl, hI2⟩
  simp only [jx_blk, jx_op, j1i_c, j2i_c, j1l_c, j2l_c, jil_c, j1r_c, jri_c, jrii_c, jril_c, jrl_c, jrr_c, j2i'_c, jdup_i, jdup_r, jdup2_c, jdup2_l, jpo_c, jli, jll, jlr, jat_0, jat_s, jst, jst2, jkill_i, jkill_r, jkill_l, jkill_n, jnone, jgv_0, jgv_1, jgv_2, jgv_3, jrv_s, jput_0, jput_1, jput_2, jput_3, jpop_0, jpop_1, jcl_s, jc1, jc2, jvi, Nat.reduceAdd, jol_i, jol_l, jol_n, List.map_cons, List.map_nil, List.sum_cons, List.sum_nil, jcI, jcL, jcR, Nat.zero_le, true_and, and_true, and_self, Nat.reduceLeDiff, gI_sI, gI_sL, gI_sR, gL_sI, gL_sL, gL_sR, gR_sI, gR_sL, gR_sR, gS_sI, gS_sL, gS_sR, gN_sI, gN_sL, gN_sR, true_or, or_true, false_or, or_false, Nat.reduceEqDiff, false_and, and_false, if_false, if_true, reduceIte, not_true_eq_false, not_false_eq_true, a1, a2]
  exact ⟨fun _ => K ν2 hI2, fun h => by first | exact False.elim h | exact absurd (lcmp0 _) h⟩
set_option maxRecDepth 100000 in
theorem lk_24 {d i L : Nat} {al : Nat × Nat} {μ : jMem} {Q : jQ} {I : Nat → jMem → Prop} (hSh : jShp I) (R : ∀ L μ (x0 : Int32), I L μ → jRel d 163 262 [.int x0] I L false μ) (hI : I L μ) (hi : i + 8 ≤ L) (hL : L ≤ 4096) (a1 : al.1 ≤ jmC 297) (a2 : al.2 ≤ jmS 297) (K : ∀ ν, I L ν → jR (d + 1) 297 1501 [some (.ref 0), some (.ref 1), some (.ref 133), some (.int (nI i))] [] al ν Q) : jR (d + 1) 297 1057 [some (.ref 0), some (.ref 1), some (.ref 133), some (.int (nI i))] [] al μ Q := by
  obtain ⟨h0, h1, h2⟩ := hSh L μ hI
  have v1 : vp_in (nI i + 1) L := by rw [show (nI i + 1 : Int32) = nI (i + 1) from nI_add i 1]; exact vp_in_nI (by omega) (by omega)
  have v2 : vp_in (nI i + 2) L := by rw [show (nI i + 2 : Int32) = nI (i + 2) from nI_add i 2]; exact vp_in_nI (by omega) (by omega)
  have v3 : vp_in (nI i + 3) L := by rw [show (nI i + 3 : Int32) = nI (i + 3) from nI_add i 3]; exact vp_in_nI (by omega) (by omega)
  have v4 : vp_in (nI i + 4) L := by rw [show (nI i + 4 : Int32) = nI (i + 4) from nI_add i 4]; exact vp_in_nI (by omega) (by omega)
  have v5 : vp_in (nI i + 5) L := by rw [show (nI i + 5 : Int32) = nI (i + 5) from nI_add i 5]; exact vp_in_nI (by omega) (by omega)
  have v6 : vp_in (nI i + 6) L := by rw [show (nI i + 6 : Int32) = nI (i + 6) from nI_add i 6]; exact vp_in_nI (by omega) (by omega)
  have v7 : vp_in (nI i + 7) L := by rw [show (nI i + 7 : Int32) = nI (i + 7) from nI_add i 7]; exact vp_in_nI (by omega) (by omega)
  refine b297_1057 ?_
  simp only [jx_blk, jx_op, j1i_c, j2i_c, j1l_c, j2l_c, jil_c, j1r_c, jri_c, jrii_c, jril_c, jrl_c, jrr_c, j2i'_c, jdup_i, jdup_r, jdup2_c, jdup2_l, jpo_c, jli, jll, jlr, jat_0, jat_s, jst, jst2, jkill_i, jkill_r, jkill_l, jkill_n, jnone, jgv_0, jgv_1, jgv_2, jgv_3, jrv_s, jput_0, jput_1, jput_2, jput_3, jpop_0, jpop_1, jcl_s, jc1, jc2, jvi, Nat.reduceAdd, jol_i, jol_l, jol_n, List.map_cons, List.map_nil, List.sum_cons, List.sum_nil, jcI, jcL, jcR, Nat.zero_le, true_and, and_true, and_self, Nat.reduceLeDiff, gI_sI, gI_sL, gI_sR, gL_sI, gL_sL, gL_sR, gR_sI, gR_sL, gR_sR, gS_sI, gS_sL, gS_sR, gN_sI, gN_sL, gN_sR, true_or, or_true, false_or, or_false, Nat.reduceEqDiff, false_and, and_false, if_false, if_true, reduceIte, not_true_eq_false, not_false_eq_true, h0, h1, h2, a1, a2, v1, v2, v3, v4, v5, v6, v7]
  refine jC_post (R _ _ _ hI) ?_
  rintro r ν ⟨hr, hg, hs, h3⟩
  simp only [if_true, if_false, Bool.false_eq_true] at hr
  obtain ⟨x, rfl⟩ := hr
  simp only [jx_blk, jx_op, j1i_c, j2i_c, j1l_c, j2l_c, jil_c, j1r_c, jri_c, jrii_c, jril_c, jrl_c, jrr_c, j2i'_c, jdup_i, jdup_r, jdup2_c, jdup2_l, jpo_c, jli, jll, jlr, jat_0, jat_s, jst, jst2, jkill_i, jkill_r, jkill_l, jkill_n, jnone, jgv_0, jgv_1, jgv_2, jgv_3, jrv_s, jput_0, jput_1, jput_2, jput_3, jpop_0, jpop_1, jcl_s, jc1, jc2, jvi, Nat.reduceAdd, jol_i, jol_l, jol_n, List.map_cons, List.map_nil, List.sum_cons, List.sum_nil, jcI, jcL, jcR, Nat.zero_le, true_and, and_true, and_self, Nat.reduceLeDiff, gI_sI, gI_sL, gI_sR, gL_sI, gL_sL, gL_sR, gR_sI, gR_sL, gR_sR, gS_sI, gS_sL, gS_sR, gN_sI, gN_sL, gN_sR, true_or, or_true, false_or, or_false, Nat.reduceEqDiff, false_and, and_false, if_false, if_true, reduceIte, not_true_eq_false, not_false_eq_true, hs, h0, h1, h2, a1, a2, v1, v2, v3, v4, v5, v6, v7, hg]
  refine jC_post h3 ?_
  rintro r2 ν2 ⟨rfl, hI2⟩
  simp only [jx_blk, jx_op, j1i_c, j2i_c, j1l_c, j2l_c, jil_c, j1r_c, jri_c, jrii_c, jril_c, jrl_c, jrr_c, j2i'_c, jdup_i, jdup_r, jdup2_c, jdup2_l, jpo_c, jli, jll, jlr, jat_0, jat_s, jst, jst2, jkill_i, jkill_r, jkill_l, jkill_n, jnone, jgv_0, jgv_1, jgv_2, jgv_3, jrv_s, jput_0, jput_1, jput_2, jput_3, jpop_0, jpop_1, jcl_s, jc1, jc2, jvi, Nat.reduceAdd, jol_i, jol_l, jol_n, List.map_cons, List.map_nil, List.sum_cons, List.sum_nil, jcI, jcL, jcR, Nat.zero_le, true_and, and_true, and_self, Nat.reduceLeDiff, gI_sI, gI_sL, gI_sR, gL_sI, gL_sL, gL_sR, gR_sI, gR_sL, gR_sR, gS_sI, gS_sL, gS_sR, gN_sI, gN_sL, gN_sR, true_or, or_true, false_or, or_false, Nat.reduceEqDiff, false_and, and_false, if_false, if_true, reduceIte, not_true_eq_false, not_false_eq_true, a1, a2]
  exact ⟨fun _ => K ν2 hI2, fun h => by first | exact False.elim h | exact absurd (lcmp0 _) h⟩
set_option maxRecDepth 100000 in
theorem lk_25 {d i L : Nat} {al : Nat × Nat} {μ : jMem} {Q : jQ} {I : Nat → jMem → Prop} (hSh : jShp I) (R : ∀ L μ (x0 : Int32), I L μ → jRel d 164 263 [.int x0] I L false μ) (hI : I L μ) (hi : i + 8 ≤ L) (hL : L ≤ 4096) (a1 : al.1 ≤ jmC 297) (a2 : al.2 ≤ jmS 297) (K : ∀ ν, I L ν → jR (d + 1) 297 1501 [some (.ref 0), some (.ref 1), some (.ref 133), some (.int (nI i))] [] al ν Q) : jR (d + 1) 297 1080 [some (.ref 0), some (.ref 1), some (.ref 133), some (.int (nI i))] [] al μ Q := by
  obtain ⟨h0, h1, h2⟩ := hSh L μ hI
  have v1 : vp_in (nI i + 1) L := by rw [show (nI i + 1 : Int32) = nI (i + 1) from nI_add i 1]; exact vp_in_nI (by omega) (by omega)
  have v2 : vp_in (nI i + 2) L := by rw [show (nI i + 2 : Int32) = nI (i + 2) from nI_add i 2]; exact vp_in_nI (by omega) (by omega)
  have v3 : vp_in (nI i + 3) L := by rw [show (nI i + 3 : Int32) = nI (i + 3) from nI_add i 3]; exact vp_in_nI (by omega) (by omega)
  have v4 : vp_in (nI i + 4) L := by rw [show (nI i + 4 : Int32) = nI (i + 4) from nI_add i 4]; exact vp_in_nI (by omega) (by omega)
  have v5 : vp_in (nI i + 5) L := by rw [show (nI i + 5 : Int32) = nI (i + 5) from nI_add i 5]; exact vp_in_nI (by omega) (by omega)
  have v6 : vp_in (nI i + 6) L := by rw [show (nI i + 6 : Int32) = nI (i + 6) from nI_add i 6]; exact vp_in_nI (by omega) (by omega)
  have v7 : vp_in (nI i + 7) L := by rw [show (nI i + 7 : Int32) = nI (i + 7) from nI_add i 7]; exact vp_in_nI (by omega) (by omega)
  refine b297_1080 ?_
  simp only [jx_blk, jx_op, j1i_c, j2i_c, j1l_c, j2l_c, jil_c, j1r_c, jri_c, jrii_c, jril_c, jrl_c, jrr_c, j2i'_c, jdup_i, jdup_r, jdup2_c, jdup2_l, jpo_c, jli, jll, jlr, jat_0, jat_s, jst, jst2, jkill_i, jkill_r, jkill_l, jkill_n, jnone, jgv_0, jgv_1, jgv_2, jgv_3, jrv_s, jput_0, jput_1, jput_2, jput_3, jpop_0, jpop_1, jcl_s, jc1, jc2, jvi, Nat.reduceAdd, jol_i, jol_l, jol_n, List.map_cons, List.map_nil, List.sum_cons, List.sum_nil, jcI, jcL, jcR, Nat.zero_le, true_and, and_true, and_self, Nat.reduceLeDiff, gI_sI, gI_sL, gI_sR, gL_sI, gL_sL, gL_sR, gR_sI, gR_sL, gR_sR, gS_sI, gS_sL, gS_sR, gN_sI, gN_sL, gN_sR, true_or, or_true, false_or, or_false, Nat.reduceEqDiff, false_and, and_false, if_false, if_true, reduceIte, not_true_eq_false, not_false_eq_true, h0, h1, h2, a1, a2, v1, v2, v3, v4, v5, v6, v7]
  refine jC_post (R _ _ _ hI) ?_
  rintro r ν ⟨hr, hg, hs, h3⟩
  simp only [if_true, if_false, Bool.false_eq_true] at hr
  obtain ⟨x, rfl⟩ := hr
  simp only [jx_blk, jx_op, j1i_c, j2i_c, j1l_c, j2l_c, jil_c, j1r_c, jri_c, jrii_c, jril_c, jrl_c, jrr_c, j2i'_c, jdup_i, jdup_r, jdup2_c, jdup2_l, jpo_c, jli, jll, jlr, jat_0, jat_s, jst, jst2, jkill_i, jkill_r, jkill_l, jkill_n, jnone, jgv_0, jgv_1, jgv_2, jgv_3, jrv_s, jput_0, jput_1, jput_2, jput_3, jpop_0, jpop_1, jcl_s, jc1, jc2, jvi, Nat.reduceAdd, jol_i, jol_l, jol_n, List.map_cons, List.map_nil, List.sum_cons, List.sum_nil, jcI, jcL, jcR, Nat.zero_le, true_and, and_true, and_self, Nat.reduceLeDiff, gI_sI, gI_sL, gI_sR, gL_sI, gL_sL, gL_sR, gR_sI, gR_sL, gR_sR, gS_sI, gS_sL, gS_sR, gN_sI, gN_sL, gN_sR, true_or, or_true, false_or, or_false, Nat.reduceEqDiff, false_and, and_false, if_false, if_true, reduceIte, not_true_eq_false, not_false_eq_true, hs, h0, h1, h2, a1, a2, v1, v2, v3, v4, v5, v6, v7, hg]
  refine jC_post h3 ?_
  rintro r2 ν2 ⟨rfl, hI2⟩
  simp only [jx_blk, jx_op, j1i_c, j2i_c, j1l_c, j2l_c, jil_c, j1r_c, jri_c, jrii_c, jril_c, jrl_c, jrr_c, j2i'_c, jdup_i, jdup_r, jdup2_c, jdup2_l, jpo_c, jli, jll, jlr, jat_0, jat_s, jst, jst2, jkill_i, jkill_r, jkill_l, jkill_n, jnone, jgv_0, jgv_1, jgv_2, jgv_3, jrv_s, jput_0, jput_1, jput_2, jput_3, jpop_0, jpop_1, jcl_s, jc1, jc2, jvi, Nat.reduceAdd, jol_i, jol_l, jol_n, List.map_cons, List.map_nil, List.sum_cons, List.sum_nil, jcI, jcL, jcR, Nat.zero_le, true_and, and_true, and_self, Nat.reduceLeDiff, gI_sI, gI_sL, gI_sR, gL_sI, gL_sL, gL_sR, gR_sI, gR_sL, gR_sR, gS_sI, gS_sL, gS_sR, gN_sI, gN_sL, gN_sR, true_or, or_true, false_or, or_false, Nat.reduceEqDiff, false_and, and_false, if_false, if_true, reduceIte, not_true_eq_false, not_false_eq_true, a1, a2]
  exact ⟨fun _ => K ν2 hI2, fun h => by first | exact False.elim h | exact absurd (lcmp0 _) h⟩
set_option maxRecDepth 100000 in
theorem lk_26 {d i L : Nat} {al : Nat × Nat} {μ : jMem} {Q : jQ} {I : Nat → jMem → Prop} (hSh : jShp I) (R : ∀ L μ (x0 : Int32) (x1 : Int32) (x2 : Int32), I L μ → jRel d 165 267 [.int x0, .int x1, .int x2] I L false μ) (hI : I L μ) (hi : i + 8 ≤ L) (hL : L ≤ 4096) (a1 : al.1 ≤ jmC 297) (a2 : al.2 ≤ jmS 297) (K : ∀ ν, I L ν → jR (d + 1) 297 1501 [some (.ref 0), some (.ref 1), some (.ref 133), some (.int (nI i))] [] al ν Q) : jR (d + 1) 297 1103 [some (.ref 0), some (.ref 1), some (.ref 133), some (.int (nI i))] [] al μ Q := by
  obtain ⟨h0, h1, h2⟩ := hSh L μ hI
  have v1 : vp_in (nI i + 1) L := by rw [show (nI i + 1 : Int32) = nI (i + 1) from nI_add i 1]; exact vp_in_nI (by omega) (by omega)
  have v2 : vp_in (nI i + 2) L := by rw [show (nI i + 2 : Int32) = nI (i + 2) from nI_add i 2]; exact vp_in_nI (by omega) (by omega)
  have v3 : vp_in (nI i + 3) L := by rw [show (nI i + 3 : Int32) = nI (i + 3) from nI_add i 3]; exact vp_in_nI (by omega) (by omega)
  have v4 : vp_in (nI i + 4) L := by rw [show (nI i + 4 : Int32) = nI (i + 4) from nI_add i 4]; exact vp_in_nI (by omega) (by omega)
  have v5 : vp_in (nI i + 5) L := by rw [show (nI i + 5 : Int32) = nI (i + 5) from nI_add i 5]; exact vp_in_nI (by omega) (by omega)
  have v6 : vp_in (nI i + 6) L := by rw [show (nI i + 6 : Int32) = nI (i + 6) from nI_add i 6]; exact vp_in_nI (by omega) (by omega)
  have v7 : vp_in (nI i + 7) L := by rw [show (nI i + 7 : Int32) = nI (i + 7) from nI_add i 7]; exact vp_in_nI (by omega) (by omega)
  refine b297_1103 ?_
  simp only [jx_blk, jx_op, j1i_c, j2i_c, j1l_c, j2l_c, jil_c, j1r_c, jri_c, jrii_c, jril_c, jrl_c, jrr_c, j2i'_c, jdup_i, jdup_r, jdup2_c, jdup2_l, jpo_c, jli, jll, jlr, jat_0, jat_s, jst, jst2, jkill_i, jkill_r, jkill_l, jkill_n, jnone, jgv_0, jgv_1, jgv_2, jgv_3, jrv_s, jput_0, jput_1, jput_2, jput_3, jpop_0, jpop_1, jcl_s, jc1, jc2, jvi, Nat.reduceAdd, jol_i, jol_l, jol_n, List.map_cons, List.map_nil, List.sum_cons, List.sum_nil, jcI, jcL, jcR, Nat.zero_le, true_and, and_true, and_self, Nat.reduceLeDiff, gI_sI, gI_sL, gI_sR, gL_sI, gL_sL, gL_sR, gR_sI, gR_sL, gR_sR, gS_sI, gS_sL, gS_sR, gN_sI, gN_sL, gN_sR, true_or, or_true, false_or, or_false, Nat.reduceEqDiff, false_and, and_false, if_false, if_true, reduceIte, not_true_eq_false, not_false_eq_true, h0, h1, h2, a1, a2, v1, v2, v3, v4, v5, v6, v7]
  refine jC_post (R _ _ _ _ _ hI) ?_
  rintro r ν ⟨hr, hg, hs, h3⟩
  simp only [if_true, if_false, Bool.false_eq_true] at hr
  obtain ⟨x, rfl⟩ := hr
  simp only [jx_blk, jx_op, j1i_c, j2i_c, j1l_c, j2l_c, jil_c, j1r_c, jri_c, jrii_c, jril_c, jrl_c, jrr_c, j2i'_c, jdup_i, jdup_r, jdup2_c, jdup2_l, jpo_c, jli, jll, jlr, jat_0, jat_s, jst, jst2, jkill_i, jkill_r, jkill_l, jkill_n, jnone, jgv_0, jgv_1, jgv_2, jgv_3, jrv_s, jput_0, jput_1, jput_2, jput_3, jpop_0, jpop_1, jcl_s, jc1, jc2, jvi, Nat.reduceAdd, jol_i, jol_l, jol_n, List.map_cons, List.map_nil, List.sum_cons, List.sum_nil, jcI, jcL, jcR, Nat.zero_le, true_and, and_true, and_self, Nat.reduceLeDiff, gI_sI, gI_sL, gI_sR, gL_sI, gL_sL, gL_sR, gR_sI, gR_sL, gR_sR, gS_sI, gS_sL, gS_sR, gN_sI, gN_sL, gN_sR, true_or, or_true, false_or, or_false, Nat.reduceEqDiff, false_and, and_false, if_false, if_true, reduceIte, not_true_eq_false, not_false_eq_true, hs, h0, h1, h2, a1, a2, v1, v2, v3, v4, v5, v6, v7, hg]
  refine jC_post h3 ?_
  rintro r2 ν2 ⟨rfl, hI2⟩
  simp only [jx_blk, jx_op, j1i_c, j2i_c, j1l_c, j2l_c, jil_c, j1r_c, jri_c, jrii_c, jril_c, jrl_c, jrr_c, j2i'_c, jdup_i, jdup_r, jdup2_c, jdup2_l, jpo_c, jli, jll, jlr, jat_0, jat_s, jst, jst2, jkill_i, jkill_r, jkill_l, jkill_n, jnone, jgv_0, jgv_1, jgv_2, jgv_3, jrv_s, jput_0, jput_1, jput_2, jput_3, jpop_0, jpop_1, jcl_s, jc1, jc2, jvi, Nat.reduceAdd, jol_i, jol_l, jol_n, List.map_cons, List.map_nil, List.sum_cons, List.sum_nil, jcI, jcL, jcR, Nat.zero_le, true_and, and_true, and_self, Nat.reduceLeDiff, gI_sI, gI_sL, gI_sR, gL_sI, gL_sL, gL_sR, gR_sI, gR_sL, gR_sR, gS_sI, gS_sL, gS_sR, gN_sI, gN_sL, gN_sR, true_or, or_true, false_or, or_false, Nat.reduceEqDiff, false_and, and_false, if_false, if_true, reduceIte, not_true_eq_false, not_false_eq_true, a1, a2]
  exact ⟨fun _ => K ν2 hI2, fun h => by first | exact False.elim h | exact absurd (lcmp0 _) h⟩
set_option maxRecDepth 100000 in
theorem lk_27 {d i L : Nat} {al : Nat × Nat} {μ : jMem} {Q : jQ} {I : Nat → jMem → Prop} (hSh : jShp I) (R : ∀ L μ (x0 : Int32) (x1 : Int32) (x2 : Int32) (x3 : Int32) (x4 : Int32), I L μ → jRel d 166 272 [.int x0, .int x1, .int x2, .int x3, .int x4] I L false μ) (hI : I L μ) (hi : i + 8 ≤ L) (hL : L ≤ 4096) (a1 : al.1 ≤ jmC 297) (a2 : al.2 ≤ jmS 297) (K : ∀ ν, I L ν → jR (d + 1) 297 1501 [some (.ref 0), some (.ref 1), some (.ref 133), some (.int (nI i))] [] al ν Q) : jR (d + 1) 297 1146 [some (.ref 0), some (.ref 1), some (.ref 133), some (.int (nI i))] [] al μ Q := by
  obtain ⟨h0, h1, h2⟩ := hSh L μ hI
  have v1 : vp_in (nI i + 1) L := by rw [show (nI i + 1 : Int32) = nI (i + 1) from nI_add i 1]; exact vp_in_nI (by omega) (by omega)
  have v2 : vp_in (nI i + 2) L := by rw [show (nI i + 2 : Int32) = nI (i + 2) from nI_add i 2]; exact vp_in_nI (by omega) (by omega)
  have v3 : vp_in (nI i + 3) L := by rw [show (nI i + 3 : Int32) = nI (i + 3) from nI_add i 3]; exact vp_in_nI (by omega) (by omega)
  have v4 : vp_in (nI i + 4) L := by rw [show (nI i + 4 : Int32) = nI (i + 4) from nI_add i 4]; exact vp_in_nI (by omega) (by omega)
  have v5 : vp_in (nI i + 5) L := by rw [show (nI i + 5 : Int32) = nI (i + 5) from nI_add i 5]; exact vp_in_nI (by omega) (by omega)
  have v6 : vp_in (nI i + 6) L := by rw [show (nI i + 6 : Int32) = nI (i + 6) from nI_add i 6]; exact vp_in_nI (by omega) (by omega)
  have v7 : vp_in (nI i + 7) L := by rw [show (nI i + 7 : Int32) = nI (i + 7) from nI_add i 7]; exact vp_in_nI (by omega) (by omega)
  refine b297_1146 ?_
  simp only [jx_blk, jx_op, j1i_c, j2i_c, j1l_c, j2l_c, jil_c, j1r_c, jri_c, jrii_c, jril_c, jrl_c, jrr_c, j2i'_c, jdup_i, jdup_r, jdup2_c, jdup2_l, jpo_c, jli, jll, jlr, jat_0, jat_s, jst, jst2, jkill_i, jkill_r, jkill_l, jkill_n, jnone, jgv_0, jgv_1, jgv_2, jgv_3, jrv_s, jput_0, jput_1, jput_2, jput_3, jpop_0, jpop_1, jcl_s, jc1, jc2, jvi, Nat.reduceAdd, jol_i, jol_l, jol_n, List.map_cons, List.map_nil, List.sum_cons, List.sum_nil, jcI, jcL, jcR, Nat.zero_le, true_and, and_true, and_self, Nat.reduceLeDiff, gI_sI, gI_sL, gI_sR, gL_sI, gL_sL, gL_sR, gR_sI, gR_sL, gR_sR, gS_sI, gS_sL, gS_sR, gN_sI, gN_sL, gN_sR, true_or, or_true, false_or, or_false, Nat.reduceEqDiff, false_and, and_false, if_false, if_true, reduceIte, not_true_eq_false, not_false_eq_true, h0, h1, h2, a1, a2, v1, v2, v3, v4, v5, v6, v7]
  refine jC_post (R _ _ _ _ _ _ _ hI) ?_
  rintro r ν ⟨hr, hg, hs, h3⟩
  simp only [if_true, if_false, Bool.false_eq_true] at hr
  obtain ⟨x, rfl⟩ := hr
  simp only [jx_blk, jx_op, j1i_c, j2i_c, j1l_c, j2l_c, jil_c, j1r_c, jri_c, jrii_c, jril_c, jrl_c, jrr_c, j2i'_c, jdup_i, jdup_r, jdup2_c, jdup2_l, jpo_c, jli, jll, jlr, jat_0, jat_s, jst, jst2, jkill_i, jkill_r, jkill_l, jkill_n, jnone, jgv_0, jgv_1, jgv_2, jgv_3, jrv_s, jput_0, jput_1, jput_2, jput_3, jpop_0, jpop_1, jcl_s, jc1, jc2, jvi, Nat.reduceAdd, jol_i, jol_l, jol_n, List.map_cons, List.map_nil, List.sum_cons, List.sum_nil, jcI, jcL, jcR, Nat.zero_le, true_and, and_true, and_self, Nat.reduceLeDiff, gI_sI, gI_sL, gI_sR, gL_sI, gL_sL, gL_sR, gR_sI, gR_sL, gR_sR, gS_sI, gS_sL, gS_sR, gN_sI, gN_sL, gN_sR, true_or, or_true, false_or, or_false, Nat.reduceEqDiff, false_and, and_false, if_false, if_true, reduceIte, not_true_eq_false, not_false_eq_true, hs, h0, h1, h2, a1, a2, v1, v2, v3, v4, v5, v6, v7, hg]
  refine jC_post h3 ?_
  rintro r2 ν2 ⟨rfl, hI2⟩
  simp only [jx_blk, jx_op, j1i_c, j2i_c, j1l_c, j2l_c, jil_c, j1r_c, jri_c, jrii_c, jril_c, jrl_c, jrr_c, j2i'_c, jdup_i, jdup_r, jdup2_c, jdup2_l, jpo_c, jli, jll, jlr, jat_0, jat_s, jst, jst2, jkill_i, jkill_r, jkill_l, jkill_n, jnone, jgv_0, jgv_1, jgv_2, jgv_3, jrv_s, jput_0, jput_1, jput_2, jput_3, jpop_0, jpop_1, jcl_s, jc1, jc2, jvi, Nat.reduceAdd, jol_i, jol_l, jol_n, List.map_cons, List.map_nil, List.sum_cons, List.sum_nil, jcI, jcL, jcR, Nat.zero_le, true_and, and_true, and_self, Nat.reduceLeDiff, gI_sI, gI_sL, gI_sR, gL_sI, gL_sL, gL_sR, gR_sI, gR_sL, gR_sR, gS_sI, gS_sL, gS_sR, gN_sI, gN_sL, gN_sR, true_or, or_true, false_or, or_false, Nat.reduceEqDiff, false_and, and_false, if_false, if_true, reduceIte, not_true_eq_false, not_false_eq_true, a1, a2]
  exact ⟨fun _ => K ν2 hI2, fun h => by first | exact False.elim h | exact absurd (lcmp0 _) h⟩
set_option maxRecDepth 100000 in
theorem lk_28 {d i L : Nat} {al : Nat × Nat} {μ : jMem} {Q : jQ} {I : Nat → jMem → Prop} (hSh : jShp I) (R : ∀ L μ (x0 : Int32) (x1 : Int32) (x2 : Int32) (x3 : Int32), I L μ → jRel d 167 273 [.int x0, .int x1, .int x2, .int x3] I L false μ) (hI : I L μ) (hi : i + 8 ≤ L) (hL : L ≤ 4096) (a1 : al.1 ≤ jmC 297) (a2 : al.2 ≤ jmS 297) (K : ∀ ν, I L ν → jR (d + 1) 297 1501 [some (.ref 0), some (.ref 1), some (.ref 133), some (.int (nI i))] [] al ν Q) : jR (d + 1) 297 1209 [some (.ref 0), some (.ref 1), some (.ref 133), some (.int (nI i))] [] al μ Q := by
  obtain ⟨h0, h1, h2⟩ := hSh L μ hI
  have v1 : vp_in (nI i + 1) L := by rw [show (nI i + 1 : Int32) = nI (i + 1) from nI_add i 1]; exact vp_in_nI (by omega) (by omega)
  have v2 : vp_in (nI i + 2) L := by rw [show (nI i + 2 : Int32) = nI (i + 2) from nI_add i 2]; exact vp_in_nI (by omega) (by omega)
  have v3 : vp_in (nI i + 3) L := by rw [show (nI i + 3 : Int32) = nI (i + 3) from nI_add i 3]; exact vp_in_nI (by omega) (by omega)
  have v4 : vp_in (nI i + 4) L := by rw [show (nI i + 4 : Int32) = nI (i + 4) from nI_add i 4]; exact vp_in_nI (by omega) (by omega)
  have v5 : vp_in (nI i + 5) L := by rw [show (nI i + 5 : Int32) = nI (i + 5) from nI_add i 5]; exact vp_in_nI (by omega) (by omega)
  have v6 : vp_in (nI i + 6) L := by rw [show (nI i + 6 : Int32) = nI (i + 6) from nI_add i 6]; exact vp_in_nI (by omega) (by omega)
  have v7 : vp_in (nI i + 7) L := by rw [show (nI i + 7 : Int32) = nI (i + 7) from nI_add i 7]; exact vp_in_nI (by omega) (by omega)
  refine b297_1209 ?_
  simp only [jx_blk, jx_op, j1i_c, j2i_c, j1l_c, j2l_c, jil_c, j1r_c, jri_c, jrii_c, jril_c, jrl_c, jrr_c, j2i'_c, jdup_i, jdup_r, jdup2_c, jdup2_l, jpo_c, jli, jll, jlr, jat_0, jat_s, jst, jst2, jkill_i, jkill_r, jkill_l, jkill_n, jnone, jgv_0, jgv_1, jgv_2, jgv_3, jrv_s, jput_0, jput_1, jput_2, jput_3, jpop_0, jpop_1, jcl_s, jc1, jc2, jvi, Nat.reduceAdd, jol_i, jol_l, jol_n, List.map_cons, List.map_nil, List.sum_cons, List.sum_nil, jcI, jcL, jcR, Nat.zero_le, true_and, and_true, and_self, Nat.reduceLeDiff, gI_sI, gI_sL, gI_sR, gL_sI, gL_sL, gL_sR, gR_sI, gR_sL, gR_sR, gS_sI, gS_sL, gS_sR, gN_sI, gN_sL, gN_sR, true_or, or_true, false_or, or_false, Nat.reduceEqDiff, false_and, and_false, if_false, if_true, reduceIte, not_true_eq_false, not_false_eq_true, h0, h1, h2, a1, a2, v1, v2, v3, v4, v5, v6, v7]
  refine jC_post (R _ _ _ _ _ _ hI) ?_
  rintro r ν ⟨hr, hg, hs, h3⟩
  simp only [if_true, if_false, Bool.false_eq_true] at hr
  obtain ⟨x, rfl⟩ := hr
  simp only [jx_blk, jx_op, j1i_c, j2i_c, j1l_c, j2l_c, jil_c, j1r_c, jri_c, jrii_c, jril_c, jrl_c, jrr_c, j2i'_c, jdup_i, jdup_r, jdup2_c, jdup2_l, jpo_c, jli, jll, jlr, jat_0, jat_s, jst, jst2, jkill_i, jkill_r, jkill_l, jkill_n, jnone, jgv_0, jgv_1, jgv_2, jgv_3, jrv_s, jput_0, jput_1, jput_2, jput_3, jpop_0, jpop_1, jcl_s, jc1, jc2, jvi, Nat.reduceAdd, jol_i, jol_l, jol_n, List.map_cons, List.map_nil, List.sum_cons, List.sum_nil, jcI, jcL, jcR, Nat.zero_le, true_and, and_true, and_self, Nat.reduceLeDiff, gI_sI, gI_sL, gI_sR, gL_sI, gL_sL, gL_sR, gR_sI, gR_sL, gR_sR, gS_sI, gS_sL, gS_sR, gN_sI, gN_sL, gN_sR, true_or, or_true, false_or, or_false, Nat.reduceEqDiff, false_and, and_false, if_false, if_true, reduceIte, not_true_eq_false, not_false_eq_true, hs, h0, h1, h2, a1, a2, v1, v2, v3, v4, v5, v6, v7, hg]
  refine jC_post h3 ?_
  rintro r2 ν2 ⟨rfl, hI2⟩
  simp only [jx_blk, jx_op, j1i_c, j2i_c, j1l_c, j2l_c, jil_c, j1r_c, jri_c, jrii_c, jril_c, jrl_c, jrr_c, j2i'_c, jdup_i, jdup_r, jdup2_c, jdup2_l, jpo_c, jli, jll, jlr, jat_0, jat_s, jst, jst2, jkill_i, jkill_r, jkill_l, jkill_n, jnone, jgv_0, jgv_1, jgv_2, jgv_3, jrv_s, jput_0, jput_1, jput_2, jput_3, jpop_0, jpop_1, jcl_s, jc1, jc2, jvi, Nat.reduceAdd, jol_i, jol_l, jol_n, List.map_cons, List.map_nil, List.sum_cons, List.sum_nil, jcI, jcL, jcR, Nat.zero_le, true_and, and_true, and_self, Nat.reduceLeDiff, gI_sI, gI_sL, gI_sR, gL_sI, gL_sL, gL_sR, gR_sI, gR_sL, gR_sR, gS_sI, gS_sL, gS_sR, gN_sI, gN_sL, gN_sR, true_or, or_true, false_or, or_false, Nat.reduceEqDiff, false_and, and_false, if_false, if_true, reduceIte, not_true_eq_false, not_false_eq_true, a1, a2]
  exact ⟨fun _ => K ν2 hI2, fun h => by first | exact False.elim h | exact absurd (lcmp0 _) h⟩
set_option maxRecDepth 100000 in
theorem lk_29 {d i L : Nat} {al : Nat × Nat} {μ : jMem} {Q : jQ} {I : Nat → jMem → Prop} (hSh : jShp I) (R : ∀ L μ (x0 : Int32) (x1 : Int32) (x2 : Int32) (x3 : Int32), I L μ → jRel d 168 275 [.int x0, .int x1, .int x2, .int x3] I L false μ) (hI : I L μ) (hi : i + 8 ≤ L) (hL : L ≤ 4096) (a1 : al.1 ≤ jmC 297) (a2 : al.2 ≤ jmS 297) (K : ∀ ν, I L ν → jR (d + 1) 297 1501 [some (.ref 0), some (.ref 1), some (.ref 133), some (.int (nI i))] [] al ν Q) : jR (d + 1) 297 1262 [some (.ref 0), some (.ref 1), some (.ref 133), some (.int (nI i))] [] al μ Q := by
  obtain ⟨h0, h1, h2⟩ := hSh L μ hI
  have v1 : vp_in (nI i + 1) L := by rw [show (nI i + 1 : Int32) = nI (i + 1) from nI_add i 1]; exact vp_in_nI (by omega) (by omega)
  have v2 : vp_in (nI i + 2) L := by rw [show (nI i + 2 : Int32) = nI (i + 2) from nI_add i 2]; exact vp_in_nI (by omega) (by omega)
  have v3 : vp_in (nI i + 3) L := by rw [show (nI i + 3 : Int32) = nI (i + 3) from nI_add i 3]; exact vp_in_nI (by omega) (by omega)
  have v4 : vp_in (nI i + 4) L := by rw [show (nI i + 4 : Int32) = nI (i + 4) from nI_add i 4]; exact vp_in_nI (by omega) (by omega)
  have v5 : vp_in (nI i + 5) L := by rw [show (nI i + 5 : Int32) = nI (i + 5) from nI_add i 5]; exact vp_in_nI (by omega) (by omega)
  have v6 : vp_in (nI i + 6) L := by rw [show (nI i + 6 : Int32) = nI (i + 6) from nI_add i 6]; exact vp_in_nI (by omega) (by omega)
  have v7 : vp_in (nI i + 7) L := by rw [show (nI i + 7 : Int32) = nI (i + 7) from nI_add i 7]; exact vp_in_nI (by omega) (by omega)
  refine b297_1262 ?_
  simp only [jx_blk, jx_op, j1i_c, j2i_c, j1l_c, j2l_c, jil_c, j1r_c, jri_c, jrii_c, jril_c, jrl_c, jrr_c, j2i'_c, jdup_i, jdup_r, jdup2_c, jdup2_l, jpo_c, jli, jll, jlr, jat_0, jat_s, jst, jst2, jkill_i, jkill_r, jkill_l, jkill_n, jnone, jgv_0, jgv_1, jgv_2, jgv_3, jrv_s, jput_0, jput_1, jput_2, jput_3, jpop_0, jpop_1, jcl_s, jc1, jc2, jvi, Nat.reduceAdd, jol_i, jol_l, jol_n, List.map_cons, List.map_nil, List.sum_cons, List.sum_nil, jcI, jcL, jcR, Nat.zero_le, true_and, and_true, and_self, Nat.reduceLeDiff, gI_sI, gI_sL, gI_sR, gL_sI, gL_sL, gL_sR, gR_sI, gR_sL, gR_sR, gS_sI, gS_sL, gS_sR, gN_sI, gN_sL, gN_sR, true_or, or_true, false_or, or_false, Nat.reduceEqDiff, false_and, and_false, if_false, if_true, reduceIte, not_true_eq_false, not_false_eq_true, h0, h1, h2, a1, a2, v1, v2, v3, v4, v5, v6, v7]
  refine jC_post (R _ _ _ _ _ _ hI) ?_
  rintro r ν ⟨hr, hg, hs, h3⟩
  simp only [if_true, if_false, Bool.false_eq_true] at hr
  obtain ⟨x, rfl⟩ := hr
  simp only [jx_blk, jx_op, j1i_c, j2i_c, j1l_c, j2l_c, jil_c, j1r_c, jri_c, jrii_c, jril_c, jrl_c, jrr_c, j2i'_c, jdup_i, jdup_r, jdup2_c, jdup2_l, jpo_c, jli, jll, jlr, jat_0, jat_s, jst, jst2, jkill_i, jkill_r, jkill_l, jkill_n, jnone, jgv_0, jgv_1, jgv_2, jgv_3, jrv_s, jput_0, jput_1, jput_2, jput_3, jpop_0, jpop_1, jcl_s, jc1, jc2, jvi, Nat.reduceAdd, jol_i, jol_l, jol_n, List.map_cons, List.map_nil, List.sum_cons, List.sum_nil, jcI, jcL, jcR, Nat.zero_le, true_and, and_true, and_self, Nat.reduceLeDiff, gI_sI, gI_sL, gI_sR, gL_sI, gL_sL, gL_sR, gR_sI, gR_sL, gR_sR, gS_sI, gS_sL, gS_sR, gN_sI, gN_sL, gN_sR, true_or, or_true, false_or, or_false, Nat.reduceEqDiff, false_and, and_false, if_false, if_true, reduceIte, not_true_eq_false, not_false_eq_true, hs, h0, h1, h2, a1, a2, v1, v2, v3, v4, v5, v6, v7, hg]
  refine jC_post h3 ?_
  rintro r2 ν2 ⟨rfl, hI2⟩
  simp only [jx_blk, jx_op, j1i_c, j2i_c, j1l_c, j2l_c, jil_c, j1r_c, jri_c, jrii_c, jril_c, jrl_c, jrr_c, j2i'_c, jdup_i, jdup_r, jdup2_c, jdup2_l, jpo_c, jli, jll, jlr, jat_0, jat_s, jst, jst2, jkill_i, jkill_r, jkill_l, jkill_n, jnone, jgv_0, jgv_1, jgv_2, jgv_3, jrv_s, jput_0, jput_1, jput_2, jput_3, jpop_0, jpop_1, jcl_s, jc1, jc2, jvi, Nat.reduceAdd, jol_i, jol_l, jol_n, List.map_cons, List.map_nil, List.sum_cons, List.sum_nil, jcI, jcL, jcR, Nat.zero_le, true_and, and_true, and_self, Nat.reduceLeDiff, gI_sI, gI_sL, gI_sR, gL_sI, gL_sL, gL_sR, gR_sI, gR_sL, gR_sR, gS_sI, gS_sL, gS_sR, gN_sI, gN_sL, gN_sR, true_or, or_true, false_or, or_false, Nat.reduceEqDiff, false_and, and_false, if_false, if_true, reduceIte, not_true_eq_false, not_false_eq_true, a1, a2]
  exact ⟨fun _ => K ν2 hI2, fun h => by first | exact False.elim h | exact absurd (lcmp0 _) h⟩
set_option maxRecDepth 100000 in
theorem lk_30 {d i L : Nat} {al : Nat × Nat} {μ : jMem} {Q : jQ} {I : Nat → jMem → Prop} (hSh : jShp I) (R : ∀ L μ (x0 : Int32) (x1 : Int32) (x2 : Int32) (x3 : Int32) (x4 : Int32) (x5 : Int32) (x6 : Int32), I L μ → jRel d 169 287 [.int x0, .int x1, .int x2, .int x3, .int x4, .int x5, .int x6] I L false μ) (hI : I L μ) (hi : i + 8 ≤ L) (hL : L ≤ 4096) (a1 : al.1 ≤ jmC 297) (a2 : al.2 ≤ jmS 297) (K : ∀ ν, I L ν → jR (d + 1) 297 1501 [some (.ref 0), some (.ref 1), some (.ref 133), some (.int (nI i))] [] al ν Q) : jR (d + 1) 297 1315 [some (.ref 0), some (.ref 1), some (.ref 133), some (.int (nI i))] [] al μ Q := by
  obtain ⟨h0, h1, h2⟩ := hSh L μ hI
  have v1 : vp_in (nI i + 1) L := by rw [show (nI i + 1 : Int32) = nI (i + 1) from nI_add i 1]; exact vp_in_nI (by omega) (by omega)
  have v2 : vp_in (nI i + 2) L := by rw [show (nI i + 2 : Int32) = nI (i + 2) from nI_add i 2]; exact vp_in_nI (by omega) (by omega)
  have v3 : vp_in (nI i + 3) L := by rw [show (nI i + 3 : Int32) = nI (i + 3) from nI_add i 3]; exact vp_in_nI (by omega) (by omega)
  have v4 : vp_in (nI i + 4) L := by rw [show (nI i + 4 : Int32) = nI (i + 4) from nI_add i 4]; exact vp_in_nI (by omega) (by omega)
  have v5 : vp_in (nI i + 5) L := by rw [show (nI i + 5 : Int32) = nI (i + 5) from nI_add i 5]; exact vp_in_nI (by omega) (by omega)
  have v6 : vp_in (nI i + 6) L := by rw [show (nI i + 6 : Int32) = nI (i + 6) from nI_add i 6]; exact vp_in_nI (by omega) (by omega)
  have v7 : vp_in (nI i + 7) L := by rw [show (nI i + 7 : Int32) = nI (i + 7) from nI_add i 7]; exact vp_in_nI (by omega) (by omega)
  refine b297_1315 ?_
  simp only [jx_blk, jx_op, j1i_c, j2i_c, j1l_c, j2l_c, jil_c, j1r_c, jri_c, jrii_c, jril_c, jrl_c, jrr_c, j2i'_c, jdup_i, jdup_r, jdup2_c, jdup2_l, jpo_c, jli, jll, jlr, jat_0, jat_s, jst, jst2, jkill_i, jkill_r, jkill_l, jkill_n, jnone, jgv_0, jgv_1, jgv_2, jgv_3, jrv_s, jput_0, jput_1, jput_2, jput_3, jpop_0, jpop_1, jcl_s, jc1, jc2, jvi, Nat.reduceAdd, jol_i, jol_l, jol_n, List.map_cons, List.map_nil, List.sum_cons, List.sum_nil, jcI, jcL, jcR, Nat.zero_le, true_and, and_true, and_self, Nat.reduceLeDiff, gI_sI, gI_sL, gI_sR, gL_sI, gL_sL, gL_sR, gR_sI, gR_sL, gR_sR, gS_sI, gS_sL, gS_sR, gN_sI, gN_sL, gN_sR, true_or, or_true, false_or, or_false, Nat.reduceEqDiff, false_and, and_false, if_false, if_true, reduceIte, not_true_eq_false, not_false_eq_true, h0, h1, h2, a1, a2, v1, v2, v3, v4, v5, v6, v7]
  refine jC_post (R _ _ _ _ _ _ _ _ _ hI) ?_
  rintro r ν ⟨hr, hg, hs, h3⟩
  simp only [if_true, if_false, Bool.false_eq_true] at hr
  obtain ⟨x, rfl⟩ := hr
  simp only [jx_blk, jx_op, j1i_c, j2i_c, j1l_c, j2l_c, jil_c, j1r_c, jri_c, jrii_c, jril_c, jrl_c, jrr_c, j2i'_c, jdup_i, jdup_r, jdup2_c, jdup2_l, jpo_c, jli, jll, jlr, jat_0, jat_s, jst, jst2, jkill_i, jkill_r, jkill_l, jkill_n, jnone, jgv_0, jgv_1, jgv_2, jgv_3, jrv_s, jput_0, jput_1, jput_2, jput_3, jpop_0, jpop_1, jcl_s, jc1, jc2, jvi, Nat.reduceAdd, jol_i, jol_l, jol_n, List.map_cons, List.map_nil, List.sum_cons, List.sum_nil, jcI, jcL, jcR, Nat.zero_le, true_and, and_true, and_self, Nat.reduceLeDiff, gI_sI, gI_sL, gI_sR, gL_sI, gL_sL, gL_sR, gR_sI, gR_sL, gR_sR, gS_sI, gS_sL, gS_sR, gN_sI, gN_sL, gN_sR, true_or, or_true, false_or, or_false, Nat.reduceEqDiff, false_and, and_false, if_false, if_true, reduceIte, not_true_eq_false, not_false_eq_true, hs, h0, h1, h2, a1, a2, v1, v2, v3, v4, v5, v6, v7, hg]
  refine jC_post h3 ?_
  rintro r2 ν2 ⟨rfl, hI2⟩
  simp only [jx_blk, jx_op, j1i_c, j2i_c, j1l_c, j2l_c, jil_c, j1r_c, jri_c, jrii_c, jril_c, jrl_c, jrr_c, j2i'_c, jdup_i, jdup_r, jdup2_c, jdup2_l, jpo_c, jli, jll, jlr, jat_0, jat_s, jst, jst2, jkill_i, jkill_r, jkill_l, jkill_n, jnone, jgv_0, jgv_1, jgv_2, jgv_3, jrv_s, jput_0, jput_1, jput_2, jput_3, jpop_0, jpop_1, jcl_s, jc1, jc2, jvi, Nat.reduceAdd, jol_i, jol_l, jol_n, List.map_cons, List.map_nil, List.sum_cons, List.sum_nil, jcI, jcL, jcR, Nat.zero_le, true_and, and_true, and_self, Nat.reduceLeDiff, gI_sI, gI_sL, gI_sR, gL_sI, gL_sL, gL_sR, gR_sI, gR_sL, gR_sR, gS_sI, gS_sL, gS_sR, gN_sI, gN_sL, gN_sR, true_or, or_true, false_or, or_false, Nat.reduceEqDiff, false_and, and_false, if_false, if_true, reduceIte, not_true_eq_false, not_false_eq_true, a1, a2]
  exact ⟨fun _ => K ν2 hI2, fun h => by first | exact False.elim h | exact absurd (lcmp0 _) h⟩
set_option maxRecDepth 100000 in
theorem lk_31 {d i L : Nat} {al : Nat × Nat} {μ : jMem} {Q : jQ} {I : Nat → jMem → Prop} (hSh : jShp I) (R : ∀ L μ (x0 : Int32), I L μ → jRel d 170 288 [.int x0] I L false μ) (hI : I L μ) (hi : i + 8 ≤ L) (hL : L ≤ 4096) (a1 : al.1 ≤ jmC 297) (a2 : al.2 ≤ jmS 297) (K : ∀ ν, I L ν → jR (d + 1) 297 1501 [some (.ref 0), some (.ref 1), some (.ref 133), some (.int (nI i))] [] al ν Q) : jR (d + 1) 297 1402 [some (.ref 0), some (.ref 1), some (.ref 133), some (.int (nI i))] [] al μ Q := by
  obtain ⟨h0, h1, h2⟩ := hSh L μ hI
  have v1 : vp_in (nI i + 1) L := by rw [show (nI i + 1 : Int32) = nI (i + 1) from nI_add i 1]; exact vp_in_nI (by omega) (by omega)
  have v2 : vp_in (nI i + 2) L := by rw [show (nI i + 2 : Int32) = nI (i + 2) from nI_add i 2]; exact vp_in_nI (by omega) (by omega)
  have v3 : vp_in (nI i + 3) L := by rw [show (nI i + 3 : Int32) = nI (i + 3) from nI_add i 3]; exact vp_in_nI (by omega) (by omega)
  have v4 : vp_in (nI i + 4) L := by rw [show (nI i + 4 : Int32) = nI (i + 4) from nI_add i 4]; exact vp_in_nI (by omega) (by omega)
  have v5 : vp_in (nI i + 5) L := by rw [show (nI i + 5 : Int32) = nI (i + 5) from nI_add i 5]; exact vp_in_nI (by omega) (by omega)
  have v6 : vp_in (nI i + 6) L := by rw [show (nI i + 6 : Int32) = nI (i + 6) from nI_add i 6]; exact vp_in_nI (by omega) (by omega)
  have v7 : vp_in (nI i + 7) L := by rw [show (nI i + 7 : Int32) = nI (i + 7) from nI_add i 7]; exact vp_in_nI (by omega) (by omega)
  refine b297_1402 ?_
  simp only [jx_blk, jx_op, j1i_c, j2i_c, j1l_c, j2l_c, jil_c, j1r_c, jri_c, jrii_c, jril_c, jrl_c, jrr_c, j2i'_c, jdup_i, jdup_r, jdup2_c, jdup2_l, jpo_c, jli, jll, jlr, jat_0, jat_s, jst, jst2, jkill_i, jkill_r, jkill_l, jkill_n, jnone, jgv_0, jgv_1, jgv_2, jgv_3, jrv_s, jput_0, jput_1, jput_2, jput_3, jpop_0, jpop_1, jcl_s, jc1, jc2, jvi, Nat.reduceAdd, jol_i, jol_l, jol_n, List.map_cons, List.map_nil, List.sum_cons, List.sum_nil, jcI, jcL, jcR, Nat.zero_le, true_and, and_true, and_self, Nat.reduceLeDiff, gI_sI, gI_sL, gI_sR, gL_sI, gL_sL, gL_sR, gR_sI, gR_sL, gR_sR, gS_sI, gS_sL, gS_sR, gN_sI, gN_sL, gN_sR, true_or, or_true, false_or, or_false, Nat.reduceEqDiff, false_and, and_false, if_false, if_true, reduceIte, not_true_eq_false, not_false_eq_true, h0, h1, h2, a1, a2, v1, v2, v3, v4, v5, v6, v7]
  refine jC_post (R _ _ _ hI) ?_
  rintro r ν ⟨hr, hg, hs, h3⟩
  simp only [if_true, if_false, Bool.false_eq_true] at hr
  obtain ⟨x, rfl⟩ := hr
  simp only [jx_blk, jx_op, j1i_c, j2i_c, j1l_c, j2l_c, jil_c, j1r_c, jri_c, jrii_c, jril_c, jrl_c, jrr_c, j2i'_c, jdup_i, jdup_r, jdup2_c, jdup2_l, jpo_c, jli, jll, jlr, jat_0, jat_s, jst, jst2, jkill_i, jkill_r, jkill_l, jkill_n, jnone, jgv_0, jgv_1, jgv_2, jgv_3, jrv_s, jput_0, jput_1, jput_2, jput_3, jpop_0, jpop_1, jcl_s, jc1, jc2, jvi, Nat.reduceAdd, jol_i, jol_l, jol_n, List.map_cons, List.map_nil, List.sum_cons, List.sum_nil, jcI, jcL, jcR, Nat.zero_le, true_and, and_true, and_self, Nat.reduceLeDiff, gI_sI, gI_sL, gI_sR, gL_sI, gL_sL, gL_sR, gR_sI, gR_sL, gR_sR, gS_sI, gS_sL, gS_sR, gN_sI, gN_sL, gN_sR, true_or, or_true, false_or, or_false, Nat.reduceEqDiff, false_and, and_false, if_false, if_true, reduceIte, not_true_eq_false, not_false_eq_true, hs, h0, h1, h2, a1, a2, v1, v2, v3, v4, v5, v6, v7, hg]
  refine jC_post h3 ?_
  rintro r2 ν2 ⟨rfl, hI2⟩
  simp only [jx_blk, jx_op, j1i_c, j2i_c, j1l_c, j2l_c, jil_c, j1r_c, jri_c, jrii_c, jril_c, jrl_c, jrr_c, j2i'_c, jdup_i, jdup_r, jdup2_c, jdup2_l, jpo_c, jli, jll, jlr, jat_0, jat_s, jst, jst2, jkill_i, jkill_r, jkill_l, jkill_n, jnone, jgv_0, jgv_1, jgv_2, jgv_3, jrv_s, jput_0, jput_1, jput_2, jput_3, jpop_0, jpop_1, jcl_s, jc1, jc2, jvi, Nat.reduceAdd, jol_i, jol_l, jol_n, List.map_cons, List.map_nil, List.sum_cons, List.sum_nil, jcI, jcL, jcR, Nat.zero_le, true_and, and_true, and_self, Nat.reduceLeDiff, gI_sI, gI_sL, gI_sR, gL_sI, gL_sL, gL_sR, gR_sI, gR_sL, gR_sR, gS_sI, gS_sL, gS_sR, gN_sI, gN_sL, gN_sR, true_or, or_true, false_or, or_false, Nat.reduceEqDiff, false_and, and_false, if_false, if_true, reduceIte, not_true_eq_false, not_false_eq_true, a1, a2]
  exact ⟨fun _ => K ν2 hI2, fun h => by first | exact False.elim h | exact absurd (lcmp0 _) h⟩
set_option maxRecDepth 100000 in
theorem lk_32 {d i L : Nat} {al : Nat × Nat} {μ : jMem} {Q : jQ} {I : Nat → jMem → Prop} (hSh : jShp I) (R : ∀ L μ (x0 : Int32) (x1 : Int32), I L μ → jRel d 171 289 [.int x0, .int x1] I L false μ) (hI : I L μ) (hi : i + 8 ≤ L) (hL : L ≤ 4096) (a1 : al.1 ≤ jmC 297) (a2 : al.2 ≤ jmS 297) (K : ∀ ν, I L ν → jR (d + 1) 297 1501 [some (.ref 0), some (.ref 1), some (.ref 133), some (.int (nI i))] [] al ν Q) : jR (d + 1) 297 1425 [some (.ref 0), some (.ref 1), some (.ref 133), some (.int (nI i))] [] al μ Q := by
  obtain ⟨h0, h1, h2⟩ := hSh L μ hI
  have v1 : vp_in (nI i + 1) L := by rw [show (nI i + 1 : Int32) = nI (i + 1) from nI_add i 1]; exact vp_in_nI (by omega) (by omega)
  have v2 : vp_in (nI i + 2) L := by rw [show (nI i + 2 : Int32) = nI (i + 2) from nI_add i 2]; exact vp_in_nI (by omega) (by omega)
  have v3 : vp_in (nI i + 3) L := by rw [show (nI i + 3 : Int32) = nI (i + 3) from nI_add i 3]; exact vp_in_nI (by omega) (by omega)
  have v4 : vp_in (nI i + 4) L := by rw [show (nI i + 4 : Int32) = nI (i + 4) from nI_add i 4]; exact vp_in_nI (by omega) (by omega)
  have v5 : vp_in (nI i + 5) L := by rw [show (nI i + 5 : Int32) = nI (i + 5) from nI_add i 5]; exact vp_in_nI (by omega) (by omega)
  have v6 : vp_in (nI i + 6) L := by rw [show (nI i + 6 : Int32) = nI (i + 6) from nI_add i 6]; exact vp_in_nI (by omega) (by omega)
  have v7 : vp_in (nI i + 7) L := by rw [show (nI i + 7 : Int32) = nI (i + 7) from nI_add i 7]; exact vp_in_nI (by omega) (by omega)
  refine b297_1425 ?_
  simp only [jx_blk, jx_op, j1i_c, j2i_c, j1l_c, j2l_c, jil_c, j1r_c, jri_c, jrii_c, jril_c, jrl_c, jrr_c, j2i'_c, jdup_i, jdup_r, jdup2_c, jdup2_l, jpo_c, jli, jll, jlr, jat_0, jat_s, jst, jst2, jkill_i, jkill_r, jkill_l, jkill_n, jnone, jgv_0, jgv_1, jgv_2, jgv_3, jrv_s, jput_0, jput_1, jput_2, jput_3, jpop_0, jpop_1, jcl_s, jc1, jc2, jvi, Nat.reduceAdd, jol_i, jol_l, jol_n, List.map_cons, List.map_nil, List.sum_cons, List.sum_nil, jcI, jcL, jcR, Nat.zero_le, true_and, and_true, and_self, Nat.reduceLeDiff, gI_sI, gI_sL, gI_sR, gL_sI, gL_sL, gL_sR, gR_sI, gR_sL, gR_sR, gS_sI, gS_sL, gS_sR, gN_sI, gN_sL, gN_sR, true_or, or_true, false_or, or_false, Nat.reduceEqDiff, false_and, and_false, if_false, if_true, reduceIte, not_true_eq_false, not_false_eq_true, h0, h1, h2, a1, a2, v1, v2, v3, v4, v5, v6, v7]
  refine jC_post (R _ _ _ _ hI) ?_
  rintro r ν ⟨hr, hg, hs, h3⟩
  simp only [if_true, if_false, Bool.false_eq_true] at hr
  obtain ⟨x, rfl⟩ := hr
  simp only [jx_blk, jx_op, j1i_c, j2i_c, j1l_c, j2l_c, jil_c, j1r_c, jri_c, jrii_c, jril_c, jrl_c, jrr_c, j2i'_c, jdup_i, jdup_r, jdup2_c, jdup2_l, jpo_c, jli, jll, jlr, jat_0, jat_s, jst, jst2, jkill_i, jkill_r, jkill_l, jkill_n, jnone, jgv_0, jgv_1, jgv_2, jgv_3, jrv_s, jput_0, jput_1, jput_2, jput_3, jpop_0, jpop_1, jcl_s, jc1, jc2, jvi, Nat.reduceAdd, jol_i, jol_l, jol_n, List.map_cons, List.map_nil, List.sum_cons, List.sum_nil, jcI, jcL, jcR, Nat.zero_le, true_and, and_true, and_self, Nat.reduceLeDiff, gI_sI, gI_sL, gI_sR, gL_sI, gL_sL, gL_sR, gR_sI, gR_sL, gR_sR, gS_sI, gS_sL, gS_sR, gN_sI, gN_sL, gN_sR, true_or, or_true, false_or, or_false, Nat.reduceEqDiff, false_and, and_false, if_false, if_true, reduceIte, not_true_eq_false, not_false_eq_true, hs, h0, h1, h2, a1, a2, v1, v2, v3, v4, v5, v6, v7, hg]
  refine jC_post h3 ?_
  rintro r2 ν2 ⟨rfl, hI2⟩
  simp only [jx_blk, jx_op, j1i_c, j2i_c, j1l_c, j2l_c, jil_c, j1r_c, jri_c, jrii_c, jril_c, jrl_c, jrr_c, j2i'_c, jdup_i, jdup_r, jdup2_c, jdup2_l, jpo_c, jli, jll, jlr, jat_0, jat_s, jst, jst2, jkill_i, jkill_r, jkill_l, jkill_n, jnone, jgv_0, jgv_1, jgv_2, jgv_3, jrv_s, jput_0, jput_1, jput_2, jput_3, jpop_0, jpop_1, jcl_s, jc1, jc2, jvi, Nat.reduceAdd, jol_i, jol_l, jol_n, List.map_cons, List.map_nil, List.sum_cons, List.sum_nil, jcI, jcL, jcR, Nat.zero_le, true_and, and_true, and_self, Nat.reduceLeDiff, gI_sI, gI_sL, gI_sR, gL_sI, gL_sL, gL_sR, gR_sI, gR_sL, gR_sR, gS_sI, gS_sL, gS_sR, gN_sI, gN_sL, gN_sR, true_or, or_true, false_or, or_false, Nat.reduceEqDiff, false_and, and_false, if_false, if_true, reduceIte, not_true_eq_false, not_false_eq_true, a1, a2]
  exact ⟨fun _ => K ν2 hI2, fun h => by first | exact False.elim h | exact absurd (lcmp0 _) h⟩
set_option maxRecDepth 100000 in
theorem lk_33 {d i L : Nat} {al : Nat × Nat} {μ : jMem} {Q : jQ} {I : Nat → jMem → Prop} (hSh : jShp I) (R : ∀ L μ (x0 : Int32) (x1 : Int32) (x2 : Int32), I L μ → jRel d 172 290 [.int x0, .int x1, .int x2] I L false μ) (hI : I L μ) (hi : i + 8 ≤ L) (hL : L ≤ 4096) (a1 : al.1 ≤ jmC 297) (a2 : al.2 ≤ jmS 297) (K : ∀ ν, I L ν → jR (d + 1) 297 1501 [some (.ref 0), some (.ref 1), some (.ref 133), some (.int (nI i))] [] al ν Q) : jR (d + 1) 297 1458 [some (.ref 0), some (.ref 1), some (.ref 133), some (.int (nI i))] [] al μ Q := by
  obtain ⟨h0, h1, h2⟩ := hSh L μ hI
  have v1 : vp_in (nI i + 1) L := by rw [show (nI i + 1 : Int32) = nI (i + 1) from nI_add i 1]; exact vp_in_nI (by omega) (by omega)
  have v2 : vp_in (nI i + 2) L := by rw [show (nI i + 2 : Int32) = nI (i + 2) from nI_add i 2]; exact vp_in_nI (by omega) (by omega)
  have v3 : vp_in (nI i + 3) L := by rw [show (nI i + 3 : Int32) = nI (i + 3) from nI_add i 3]; exact vp_in_nI (by omega) (by omega)
  have v4 : vp_in (nI i + 4) L := by rw [show (nI i + 4 : Int32) = nI (i + 4) from nI_add i 4]; exact vp_in_nI (by omega) (by omega)
  have v5 : vp_in (nI i + 5) L := by rw [show (nI i + 5 : Int32) = nI (i + 5) from nI_add i 5]; exact vp_in_nI (by omega) (by omega)
  have v6 : vp_in (nI i + 6) L := by rw [show (nI i + 6 : Int32) = nI (i + 6) from nI_add i 6]; exact vp_in_nI (by omega) (by omega)
  have v7 : vp_in (nI i + 7) L := by rw [show (nI i + 7 : Int32) = nI (i + 7) from nI_add i 7]; exact vp_in_nI (by omega) (by omega)
  refine b297_1458 ?_
  simp only [jx_blk, jx_op, j1i_c, j2i_c, j1l_c, j2l_c, jil_c, j1r_c, jri_c, jrii_c, jril_c, jrl_c, jrr_c, j2i'_c, jdup_i, jdup_r, jdup2_c, jdup2_l, jpo_c, jli, jll, jlr, jat_0, jat_s, jst, jst2, jkill_i, jkill_r, jkill_l, jkill_n, jnone, jgv_0, jgv_1, jgv_2, jgv_3, jrv_s, jput_0, jput_1, jput_2, jput_3, jpop_0, jpop_1, jcl_s, jc1, jc2, jvi, Nat.reduceAdd, jol_i, jol_l, jol_n, List.map_cons, List.map_nil, List.sum_cons, List.sum_nil, jcI, jcL, jcR, Nat.zero_le, true_and, and_true, and_self, Nat.reduceLeDiff, gI_sI, gI_sL, gI_sR, gL_sI, gL_sL, gL_sR, gR_sI, gR_sL, gR_sR, gS_sI, gS_sL, gS_sR, gN_sI, gN_sL, gN_sR, true_or, or_true, false_or, or_false, Nat.reduceEqDiff, false_and, and_false, if_false, if_true, reduceIte, not_true_eq_false, not_false_eq_true, h0, h1, h2, a1, a2, v1, v2, v3, v4, v5, v6, v7]
  refine jC_post (R _ _ _ _ _ hI) ?_
  rintro r ν ⟨hr, hg, hs, h3⟩
  simp only [if_true, if_false, Bool.false_eq_true] at hr
  obtain ⟨x, rfl⟩ := hr
  simp only [jx_blk, jx_op, j1i_c, j2i_c, j1l_c, j2l_c, jil_c, j1r_c, jri_c, jrii_c, jril_c, jrl_c, jrr_c, j2i'_c, jdup_i, jdup_r, jdup2_c, jdup2_l, jpo_c, jli, jll, jlr, jat_0, jat_s, jst, jst2, jkill_i, jkill_r, jkill_l, jkill_n, jnone, jgv_0, jgv_1, jgv_2, jgv_3, jrv_s, jput_0, jput_1, jput_2, jput_3, jpop_0, jpop_1, jcl_s, jc1, jc2, jvi, Nat.reduceAdd, jol_i, jol_l, jol_n, List.map_cons, List.map_nil, List.sum_cons, List.sum_nil, jcI, jcL, jcR, Nat.zero_le, true_and, and_true, and_self, Nat.reduceLeDiff, gI_sI, gI_sL, gI_sR, gL_sI, gL_sL, gL_sR, gR_sI, gR_sL, gR_sR, gS_sI, gS_sL, gS_sR, gN_sI, gN_sL, gN_sR, true_or, or_true, false_or, or_false, Nat.reduceEqDiff, false_and, and_false, if_false, if_true, reduceIte, not_true_eq_false, not_false_eq_true, hs, h0, h1, h2, a1, a2, v1, v2, v3, v4, v5, v6, v7, hg]
  refine jC_post h3 ?_
  rintro r2 ν2 ⟨rfl, hI2⟩
  simp only [jx_blk, jx_op, j1i_c, j2i_c, j1l_c, j2l_c, jil_c, j1r_c, jri_c, jrii_c, jril_c, jrl_c, jrr_c, j2i'_c, jdup_i, jdup_r, jdup2_c, jdup2_l, jpo_c, jli, jll, jlr, jat_0, jat_s, jst, jst2, jkill_i, jkill_r, jkill_l, jkill_n, jnone, jgv_0, jgv_1, jgv_2, jgv_3, jrv_s, jput_0, jput_1, jput_2, jput_3, jpop_0, jpop_1, jcl_s, jc1, jc2, jvi, Nat.reduceAdd, jol_i, jol_l, jol_n, List.map_cons, List.map_nil, List.sum_cons, List.sum_nil, jcI, jcL, jcR, Nat.zero_le, true_and, and_true, and_self, Nat.reduceLeDiff, gI_sI, gI_sL, gI_sR, gL_sI, gL_sL, gL_sR, gR_sI, gR_sL, gR_sR, gS_sI, gS_sL, gS_sR, gN_sI, gN_sL, gN_sR, true_or, or_true, false_or, or_false, Nat.reduceEqDiff, false_and, and_false, if_false, if_true, reduceIte, not_true_eq_false, not_false_eq_true, a1, a2]
  exact ⟨fun _ => K ν2 hI2, fun h => by first | exact False.elim h | exact absurd (lcmp0 _) h⟩
theorem jif_neg {x : Int32} {k : Nat} (h : x.toInt = k) (hk : k < 2 ^ 31) : x = nI k := by
  apply Int32.toInt_inj.mp
  rw [h, nI_toInt hk]
set_option maxHeartbeats 4000000 in
theorem law_loop {d L : Nat} {al : Nat × Nat} {I : Nat → jMem → Prop} (hSh : jShp I) (R0 : ∀ L μ, I L μ → jRel d 139 185 [] I L false μ) (R1 : ∀ L μ, I L μ → jRel d 140 186 [] I L true μ) (R2 : ∀ L μ, I L μ → jRel d 141 187 [] I L true μ) (R3 : ∀ L μ (x0 : Int32) (x1 : Int32) (x2 : Int32), I L μ → jRel d 142 194 [.int x0, .int x1, .int x2] I L false μ) (R4 : ∀ L μ (x0 : Int32) (x1 : Int32) (x2 : Int64), I L μ → jRel d 143 197 [.int x0, .int x1, .long x2] I L false μ) (R5 : ∀ L μ (x0 : Int32) (x1 : Int32), I L μ → jRel d 144 198 [.int x0, .int x1] I L true μ) (R6 : ∀ L μ (x0 : Int32) (x1 : Int32) (x2 : Int32) (x3 : Int32) (x4 : Int32), I L μ → jRel d 145 199 [.int x0, .int x1, .int x2, .int x3, .int x4] I L false μ) (R7 : ∀ L μ (x0 : Int32) (x1 : Int32) (x2 : Int32) (x3 : Int32) (x4 : Int32), I L μ → jRel d 146 224 [.int x0, .int x1, .int x2, .int x3, .int x4] I L false μ) (R8 : ∀ L μ (x0 : Int32), I L μ → jRel d 147 226 [.int x0] I L false μ) (R9 : ∀ L μ (x0 : Int32), I L μ → jRel d 148 228 [.int x0] I L false μ) (R10 : ∀ L μ (x0 : Int32), I L μ → jRel d 149 236 [.int x0] I L false μ) (R11 : ∀ L μ (x0 : Int32) (x1 : Int32), I L μ → jRel d 150 237 [.int x0, .int x1] I L false μ) (R12 : ∀ L μ (x0 : Int32) (x1 : Int32), I L μ → (x1 = 0 ∨ x1 = 1) → jRel d 151 238 [.int x0, .int x1] I L false μ) (R13 : ∀ L μ (x0 : Int32), I L μ → (x0 = 0 ∨ x0 = 1) → jRel d 152 239 [.int x0] I L false μ) (R14 : ∀ L μ (x0 : Int32) (x1 : Int32), I L μ → jRel d 153 241 [.int x0, .int x1] I L false μ) (R15 : ∀ L μ (x0 : Int32) (x1 : Int32) (x2 : Int32), I L μ → (x2 = 0 ∨ x2 = 1) → jRel d 154 242 [.int x0, .int x1, .int x2] I L false μ) (R16 : ∀ L μ (x0 : Int32), I L μ → jRel d 155 244 [.int x0] I L false μ) (R17 : ∀ L μ (x0 : Int32) (x1 : Int32) (x2 : Int32) (x3 : Int32), I L μ → jRel d 156 251 [.int x0, .int x1, .int x2, .int x3] I L false μ) (R18 : ∀ L μ (x0 : Int32) (x1 : Int32) (x2 : Int32), I L μ → jRel d 157 252 [.int x0, .int x1, .int x2] I L false μ) (R19 : ∀ L μ (x0 : Int32) (x1 : Int32), I L μ → jRel d 158 255 [.int x0, .int x1] I L false μ) (R20 : ∀ L μ (x0 : Int32) (x1 : Int32), I L μ → jRel d 159 256 [.int x0, .int x1] I L false μ) (R21 : ∀ L μ (x0 : Int32) (x1 : Int32), I L μ → jRel d 160 257 [.int x0, .int x1] I L false μ) (R22 : ∀ L μ (x0 : Int32), I L μ → jRel d 161 260 [.int x0] I L false μ) (R23 : ∀ L μ (x0 : Int32) (x1 : Int32), I L μ → jRel d 162 261 [.int x0, .int x1] I L false μ) (R24 : ∀ L μ (x0 : Int32), I L μ → jRel d 163 262 [.int x0] I L false μ) (R25 : ∀ L μ (x0 : Int32), I L μ → jRel d 164 263 [.int x0] I L false μ) (R26 : ∀ L μ (x0 : Int32) (x1 : Int32) (x2 : Int32), I L μ → jRel d 165 267 [.int x0, .int x1, .int x2] I L false μ) (R27 : ∀ L μ (x0 : Int32) (x1 : Int32) (x2 : Int32) (x3 : Int32) (x4 : Int32), I L μ → jRel d 166 272 [.int x0, .int x1, .int x2, .int x3, .int x4] I L false μ) (R28 : ∀ L μ (x0 : Int32) (x1 : Int32) (x2 : Int32) (x3 : Int32), I L μ → jRel d 167 273 [.int x0, .int x1, .int x2, .int x3] I L false μ) (R29 : ∀ L μ (x0 : Int32) (x1 : Int32) (x2 : Int32) (x3 : Int32), I L μ → jRel d 168 275 [.int x0, .int x1, .int x2, .int x3] I L false μ) (R30 : ∀ L μ (x0 : Int32) (x1 : Int32) (x2 : Int32) (x3 : Int32) (x4 : Int32) (x5 : Int32) (x6 : Int32), I L μ → jRel d 169 287 [.int x0, .int x1, .int x2, .int x3, .int x4, .int x5, .int x6] I L false μ) (R31 : ∀ L μ (x0 : Int32), I L μ → jRel d 170 288 [.int x0] I L false μ) (R32 : ∀ L μ (x0 : Int32) (x1 : Int32), I L μ → jRel d 171 289 [.int x0, .int x1] I L false μ) (R33 : ∀ L μ (x0 : Int32) (x1 : Int32) (x2 : Int32), I L μ → jRel d 172 290 [.int x0, .int x1, .int x2] I L false μ) (hL : L ≤ 4096) (a1 : al.1 ≤ jmC 297) (a2 : al.2 ≤ jmS 297) : ∀ (n i : Nat) (μ : jMem), L < i + n → i ≤ L + 8 → I L μ → jR (d + 1) 297 18 [some (.ref 0), some (.ref 1), some (.ref 133), some (.int (nI i))] [] al μ (fun r _ => r = some (.int 1)) := by
  intro n
  induction n with
  | zero =>
    intro i μ hn hiL hI
    obtain ⟨h0, h1, h2⟩ := hSh L μ hI
    refine b297_18 ?_
    simp only [jx_blk, jx_op, j1i_c, j2i_c, j1l_c, j2l_c, jil_c, j1r_c, jri_c, jrii_c, jril_c, jrl_c, jrr_c, j2i'_c, jdup_i, jdup_r, jdup2_c, jdup2_l, jpo_c, jli, jll, jlr, jat_0, jat_s, jst, jst2, jkill_i, jkill_r, jkill_l, jkill_n, jnone, jgv_0, jgv_1, jgv_2, jgv_3, jrv_s, jput_0, jput_1, jput_2, jput_3, jpop_0, jpop_1, jcl_s, jc1, jc2, jvi, Nat.reduceAdd, jol_i, jol_l, jol_n, List.map_cons, List.map_nil, List.sum_cons, List.sum_nil, jcI, jcL, jcR, Nat.zero_le, true_and, and_true, and_self, Nat.reduceLeDiff, gI_sI, gI_sL, gI_sR, gL_sI, gL_sL, gL_sR, gR_sI, gR_sL, gR_sR, gS_sI, gS_sL, gS_sR, gN_sI, gN_sL, gN_sR, true_or, or_true, false_or, or_false, Nat.reduceEqDiff, false_and, and_false, if_false, if_true, reduceIte, not_true_eq_false, not_false_eq_true, h0]
    refine ⟨fun _ => ?_, fun h => ?_⟩
    · refine b297_1507 ?_
      simp only [jx_blk, jx_op, j1i_c, j2i_c, j1l_c, j2l_c, jil_c, j1r_c, jri_c, jrii_c, jril_c, jrl_c, jrr_c, j2i'_c, jdup_i, jdup_r, jdup2_c, jdup2_l, jpo_c, jli, jll, jlr, jat_0, jat_s, jst, jst2, jkill_i, jkill_r, jkill_l, jkill_n, jnone, jgv_0, jgv_1, jgv_2, jgv_3, jrv_s, jput_0, jput_1, jput_2, jput_3, jpop_0, jpop_1, jcl_s, jc1, jc2, jvi, Nat.reduceAdd, jol_i, jol_l, jol_n, List.map_cons, List.map_nil, List.sum_cons, List.sum_nil, jcI, jcL, jcR, Nat.zero_le, true_and, and_true, and_self, Nat.reduceLeDiff, gI_sI, gI_sL, gI_sR, gL_sI, gL_sL, gL_sR, gR_sI, gR_sL, gR_sR, gS_sI, gS_sL, gS_sR, gN_sI, gN_sL, gN_sR, true_or, or_true, false_or, or_false, Nat.reduceEqDiff, false_and, and_false, if_false, if_true, reduceIte, not_true_eq_false, not_false_eq_true, a1, a2]
    · exact absurd (by
        show nI L - 8 < nI i
        rw [Int32.lt_iff_toInt_lt, nI_toInt (by omega)]
        have : (nI L - 8 : Int32).toInt = (L : Int) - 8 := by
          have := pk_sub_toInt (a := L) (b := 8) (by omega) (by omega)
          exact this
        omega) h
  | succ n ih =>
    intro i μ hn hiL hI
    obtain ⟨h0, h1, h2⟩ := hSh L μ hI
    refine b297_18 ?_
    simp only [jx_blk, jx_op, j1i_c, j2i_c, j1l_c, j2l_c, jil_c, j1r_c, jri_c, jrii_c, jril_c, jrl_c, jrr_c, j2i'_c, jdup_i, jdup_r, jdup2_c, jdup2_l, jpo_c, jli, jll, jlr, jat_0, jat_s, jst, jst2, jkill_i, jkill_r, jkill_l, jkill_n, jnone, jgv_0, jgv_1, jgv_2, jgv_3, jrv_s, jput_0, jput_1, jput_2, jput_3, jpop_0, jpop_1, jcl_s, jc1, jc2, jvi, Nat.reduceAdd, jol_i, jol_l, jol_n, List.map_cons, List.map_nil, List.sum_cons, List.sum_nil, jcI, jcL, jcR, Nat.zero_le, true_and, and_true, and_self, Nat.reduceLeDiff, gI_sI, gI_sL, gI_sR, gL_sI, gL_sL, gL_sR, gR_sI, gR_sL, gR_sR, gS_sI, gS_sL, gS_sR, gN_sI, gN_sL, gN_sR, true_or, or_true, false_or, or_false, Nat.reduceEqDiff, false_and, and_false, if_false, if_true, reduceIte, not_true_eq_false, not_false_eq_true, h0]
    refine ⟨fun _ => ?_, fun h => ?_⟩
    · refine b297_1507 ?_
      simp only [jx_blk, jx_op, j1i_c, j2i_c, j1l_c, j2l_c, jil_c, j1r_c, jri_c, jrii_c, jril_c, jrl_c, jrr_c, j2i'_c, jdup_i, jdup_r, jdup2_c, jdup2_l, jpo_c, jli, jll, jlr, jat_0, jat_s, jst, jst2, jkill_i, jkill_r, jkill_l, jkill_n, jnone, jgv_0, jgv_1, jgv_2, jgv_3, jrv_s, jput_0, jput_1, jput_2, jput_3, jpop_0, jpop_1, jcl_s, jc1, jc2, jvi, Nat.reduceAdd, jol_i, jol_l, jol_n, List.map_cons, List.map_nil, List.sum_cons, List.sum_nil, jcI, jcL, jcR, Nat.zero_le, true_and, and_true, and_self, Nat.reduceLeDiff, gI_sI, gI_sL, gI_sR, gL_sI, gL_sL, gL_sR, gR_sI, gR_sL, gR_sR, gS_sI, gS_sL, gS_sR, gN_sI, gN_sL, gN_sR, true_or, or_true, false_or, or_false, Nat.reduceEqDiff, false_and, and_false, if_false, if_true, reduceIte, not_true_eq_false, not_false_eq_true, a1, a2]
    · have hi : i + 8 ≤ L := by
        have e1 : ¬ (nI L - 8 : Int32) < nI i := h
        rw [Int32.lt_iff_toInt_lt, nI_toInt (by omega)] at e1
        have e2 : (nI L - 8 : Int32).toInt = (L : Int) - 8 := pk_sub_toInt (a := L) (b := 8) (by omega) (by omega)
        omega
      have K : ∀ ν, I L ν → jR (d + 1) 297 1501 [some (.ref 0), some (.ref 1), some (.ref 133), some (.int (nI i))] [] al ν (fun r _ => r = some (.int 1)) := by
        intro ν hν
        refine b297_1501 ?_
        simp only [jx_blk, jx_op, j1i_c, j2i_c, j1l_c, j2l_c, jil_c, j1r_c, jri_c, jrii_c, jril_c, jrl_c, jrr_c, j2i'_c, jdup_i, jdup_r, jdup2_c, jdup2_l, jpo_c, jli, jll, jlr, jat_0, jat_s, jst, jst2, jkill_i, jkill_r, jkill_l, jkill_n, jnone, jgv_0, jgv_1, jgv_2, jgv_3, jrv_s, jput_0, jput_1, jput_2, jput_3, jpop_0, jpop_1, jcl_s, jc1, jc2, jvi, Nat.reduceAdd, jol_i, jol_l, jol_n, List.map_cons, List.map_nil, List.sum_cons, List.sum_nil, jcI, jcL, jcR, Nat.zero_le, true_and, and_true, and_self, Nat.reduceLeDiff, gI_sI, gI_sL, gI_sR, gL_sI, gL_sL, gL_sR, gR_sI, gR_sL, gR_sR, gS_sI, gS_sL, gS_sR, gN_sI, gN_sL, gN_sR, true_or, or_true, false_or, or_false, Nat.reduceEqDiff, false_and, and_false, if_false, if_true, reduceIte, not_true_eq_false, not_false_eq_true]
        rw [show (nI i + 8 : Int32) = nI (i + 8) from nI_add i 8]
        exact ih (i + 8) ν (by omega) (by omega) hν
      refine ⟨vp_in_nI (by omega) (by omega), ?_⟩
      intro t ht
      generalize gI μ 0 (nI i).toNatClampNeg &&& 63 = x at ht
      rcases ht with ⟨hx, ht⟩ | ⟨hx1, hx2, off, ho, ht⟩
      · have : t = 1501 := by omega
        subst this
        exact K μ hI
      · obtain ⟨k, hk⟩ : ∃ k : Nat, x.toInt = k := ⟨x.toInt.toNat, by omega⟩
        have hk34 : k < 34 := by omega
        rw [show (x.toInt - 0).toNat = k by omega] at ho
        have hcase : k = 0 ∨ k = 1 ∨ k = 2 ∨ k = 3 ∨ k = 4 ∨ k = 5 ∨ k = 6 ∨ k = 7 ∨ k = 8 ∨ k = 9 ∨ k = 10 ∨ k = 11 ∨ k = 12 ∨ k = 13 ∨ k = 14 ∨ k = 15 ∨ k = 16 ∨ k = 17 ∨ k = 18 ∨ k = 19 ∨ k = 20 ∨ k = 21 ∨ k = 22 ∨ k = 23 ∨ k = 24 ∨ k = 25 ∨ k = 26 ∨ k = 27 ∨ k = 28 ∨ k = 29 ∨ k = 30 ∨ k = 31 ∨ k = 32 ∨ k = 33 := by omega
        rcases hcase with rfl | rfl | rfl | rfl | rfl | rfl | rfl | rfl | rfl | rfl | rfl | rfl | rfl | rfl | rfl | rfl | rfl | rfl | rfl | rfl | rfl | rfl | rfl | rfl | rfl | rfl | rfl | rfl | rfl | rfl | rfl | rfl | rfl | rfl
        · have ho2 : (151 : Int) = off := Option.some.inj ho
          have : t = 184 := by omega
          subst this
          exact lk_0 hSh R0 hI hi hL a1 a2 K
        · have ho2 : (164 : Int) = off := Option.some.inj ho
          have : t = 197 := by omega
          subst this
          exact lk_1 hSh R1 hI hi hL a1 a2 K
        · have ho2 : (178 : Int) = off := Option.some.inj ho
          have : t = 211 := by omega
          subst this
          exact lk_2 hSh R2 hI hi hL a1 a2 K
        · have ho2 : (192 : Int) = off := Option.some.inj ho
          have : t = 225 := by omega
          subst this
          exact lk_3 hSh R3 hI hi hL a1 a2 K
        · have ho2 : (235 : Int) = off := Option.some.inj ho
          have : t = 268 := by omega
          subst this
          exact lk_4 hSh R4 hI hi hL a1 a2 K
        · have ho2 : (308 : Int) = off := Option.some.inj ho
          have : t = 341 := by omega
          subst this
          exact lk_5 hSh R5 hI hi hL a1 a2 K
        · have ho2 : (342 : Int) = off := Option.some.inj ho
          have : t = 375 := by omega
          subst this
          exact lk_6 hSh R6 hI hi hL a1 a2 K
        · have ho2 : (405 : Int) = off := Option.some.inj ho
          have : t = 438 := by omega
          subst this
          exact lk_7 hSh R7 hI hi hL a1 a2 K
        · have ho2 : (468 : Int) = off := Option.some.inj ho
          have : t = 501 := by omega
          subst this
          exact lk_8 hSh R8 hI hi hL a1 a2 K
        · have ho2 : (491 : Int) = off := Option.some.inj ho
          have : t = 524 := by omega
          subst this
          exact lk_9 hSh R9 hI hi hL a1 a2 K
        · have ho2 : (514 : Int) = off := Option.some.inj ho
          have : t = 547 := by omega
          subst this
          exact lk_10 hSh R10 hI hi hL a1 a2 K
        · have ho2 : (537 : Int) = off := Option.some.inj ho
          have : t = 570 := by omega
          subst this
          exact lk_11 hSh R11 hI hi hL a1 a2 K
        · have ho2 : (570 : Int) = off := Option.some.inj ho
          have : t = 603 := by omega
          subst this
          exact lk_12 hSh R12 hI hi hL a1 a2 K
        · have ho2 : (619 : Int) = off := Option.some.inj ho
          have : t = 652 := by omega
          subst this
          exact lk_13 hSh R13 hI hi hL a1 a2 K
        · have ho2 : (658 : Int) = off := Option.some.inj ho
          have : t = 691 := by omega
          subst this
          exact lk_14 hSh R14 hI hi hL a1 a2 K
        · have ho2 : (691 : Int) = off := Option.some.inj ho
          have : t = 724 := by omega
          subst this
          exact lk_15 hSh R15 hI hi hL a1 a2 K
        · have ho2 : (750 : Int) = off := Option.some.inj ho
          have : t = 783 := by omega
          subst this
          exact lk_16 hSh R16 hI hi hL a1 a2 K
        · have ho2 : (773 : Int) = off := Option.some.inj ho
          have : t = 806 := by omega
          subst this
          exact lk_17 hSh R17 hI hi hL a1 a2 K
        · have ho2 : (826 : Int) = off := Option.some.inj ho
          have : t = 859 := by omega
          subst this
          exact lk_18 hSh R18 hI hi hL a1 a2 K
        · have ho2 : (869 : Int) = off := Option.some.inj ho
          have : t = 902 := by omega
          subst this
          exact lk_19 hSh R19 hI hi hL a1 a2 K
        · have ho2 : (902 : Int) = off := Option.some.inj ho
          have : t = 935 := by omega
          subst this
          exact lk_20 hSh R20 hI hi hL a1 a2 K
        · have ho2 : (935 : Int) = off := Option.some.inj ho
          have : t = 968 := by omega
          subst this
          exact lk_21 hSh R21 hI hi hL a1 a2 K
        · have ho2 : (968 : Int) = off := Option.some.inj ho
          have : t = 1001 := by omega
          subst this
          exact lk_22 hSh R22 hI hi hL a1 a2 K
        · have ho2 : (991 : Int) = off := Option.some.inj ho
          have : t = 1024 := by omega
          subst this
          exact lk_23 hSh R23 hI hi hL a1 a2 K
        · have ho2 : (1024 : Int) = off := Option.some.inj ho
          have : t = 1057 := by omega
          subst this
          exact lk_24 hSh R24 hI hi hL a1 a2 K
        · have ho2 : (1047 : Int) = off := Option.some.inj ho
          have : t = 1080 := by omega
          subst this
          exact lk_25 hSh R25 hI hi hL a1 a2 K
        · have ho2 : (1070 : Int) = off := Option.some.inj ho
          have : t = 1103 := by omega
          subst this
          exact lk_26 hSh R26 hI hi hL a1 a2 K
        · have ho2 : (1113 : Int) = off := Option.some.inj ho
          have : t = 1146 := by omega
          subst this
          exact lk_27 hSh R27 hI hi hL a1 a2 K
        · have ho2 : (1176 : Int) = off := Option.some.inj ho
          have : t = 1209 := by omega
          subst this
          exact lk_28 hSh R28 hI hi hL a1 a2 K
        · have ho2 : (1229 : Int) = off := Option.some.inj ho
          have : t = 1262 := by omega
          subst this
          exact lk_29 hSh R29 hI hi hL a1 a2 K
        · have ho2 : (1282 : Int) = off := Option.some.inj ho
          have : t = 1315 := by omega
          subst this
          exact lk_30 hSh R30 hI hi hL a1 a2 K
        · have ho2 : (1369 : Int) = off := Option.some.inj ho
          have : t = 1402 := by omega
          subst this
          exact lk_31 hSh R31 hI hi hL a1 a2 K
        · have ho2 : (1392 : Int) = off := Option.some.inj ho
          have : t = 1425 := by omega
          subst this
          exact lk_32 hSh R32 hI hi hL a1 a2 K
        · have ho2 : (1425 : Int) = off := Option.some.inj ho
          have : t = 1458 := by omega
          subst this
          exact lk_33 hSh R33 hI hi hL a1 a2 K
