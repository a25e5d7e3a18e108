/-! agreed, alike: the class's last tick; the better row is kept -/
section JRH
variable {d L t : Nat} {μ : jMem} {Q : jQ} {T : jT} {a b c m n o k last : Nat} {al st : Bool} {r : Nat → Nat}
/-- how much meets by a code -/
def rMt (T : jT) (r : Nat → Nat) (k c : Nat) : Nat := jsum (fun pr => if rM T c pr = true then rAp T r k pr else 0) 64
theorem rMt_le (hK : jTok T) : rMt T r k c ≤ rAA T r k := by
  have := rAA_m (T := T) (r := r) (k := k) (c := c) hK
  unfold rMt
  omega
theorem sp_keep {M : Nat} {m0 l0 : Int32} (hW : jWd L t μ) (ho : jRO al o) (hl : last < 5) (hA : ∀ j, j ≤ last → gI μ (o + 9) j = nI (rAA T r j)) (hb : ∀ j, rAA T r j ≤ 5184) (hM : M ≤ 5184) (hm : gI μ o 4 = m0) (hl0 : gI μ o 5 = l0)
    (h0 : ¬ (nI M < m0 ∨ nI M = m0 ∧ nI (M + jsum (rAA T r) (last + 1)) < l0) → Q none μ)
    (h1 : (nI M < m0 ∨ nI M = m0 ∧ nI (M + jsum (rAA T r) (last + 1)) < l0) → ∀ ν, jFr [o, o + 1] μ ν → gI ν o 4 = nI M → gI ν o 5 = nI (M + jsum (rAA T r) (last + 1)) → (∀ i, i ≠ 4 → i ≠ 5 → gI ν o i = gI μ o i) → (∀ j, j ≤ last → gI ν (o + 1) j = gI μ (o + 2) j) → Q none ν) :
    jC d 71 [.ref o, .int (nI last), .int (nI M)] μ Q := by
  have rf := rwF ho hW
  have w := rwS L ho
  have o100 : 102 ≤ o := by rcases ho with ⟨_, rfl⟩ | ⟨_, rfl⟩ <;> omega
  have n1 := eq_false (show ¬ o + 1 = 0 by omega)
  have pl : ∀ j, j ≤ 6 → jsum (rAA T r) j ≤ 31104 := fun j hj => by
    have := jsum_le (f := rAA T r) (c := 5184) j (fun i _ => hb i)
    omega
  have copy : ∀ (n j : Nat) (ν : jMem), j + n = last + 1 → (nI M < m0 ∨ nI M = m0 ∧ nI (M + jsum (rAA T r) (last + 1)) < l0) → jFr [o, o + 1] μ ν → gI ν o 4 = nI M → gI ν o 5 = nI (M + jsum (rAA T r) (last + 1)) → (∀ i, i ≠ 4 → i ≠ 5 → gI ν o i = gI μ o i) → (∀ i, i < j → gI ν (o + 1) i = gI μ (o + 2) i) → jR d 71 71 [some (.ref o), some (.int (nI last)), some (.int (nI M)), some (.int (nI (M + jsum (rAA T r) (last + 1)))), some (.int (nI j))] [] (0, 0) ν Q := by
    intro n
    induction n with
    | zero =>
      intro j ν hj c hF e4 e5 ei hc
      obtain rfl : j = last + 1 := by omega
      have kk := h1 c ν hF e4 e5 ei (fun i hi => hc i (by omega))
      generalize jsum (rAA T r) (last + 1) = S at *
      refine b71_71 ?_
      repeat' (first | refine b71_5 ?_ | refine b71_33 ?_ | refine b71_57 ?_ | refine b71_58 ?_ | refine b71_103 ?_ | dsimp only [jb_e0, jb_ec, jb_n, jb_c, jx_op, j1i_c, j2i_c, j1l_c, j2l_c, jil_c, j1r_c, jri_c, jrii_c, jril_c, jrl_c, jrr_c, j2i'_c, jdup_i, jdup_r, jdup2_c, jdup2_l, jpo_c, jli, jll, jlr, jat_0, jat_s, jst, jst2, jkill_i, jkill_r, jkill_l, jkill_n, jnone, jgv_0, jgv_1, jgv_2, jgv_3, jrv_s, jput_0, jput_1, jput_2, jput_3, jpop_0, jpop_1, jcl_s, jc1, jc2, jvi, Nat.reduceAdd, jol_i, jol_l, jol_n, jap_n, jap_c, List.map_cons, List.map_nil, List.sum_cons, List.sum_nil, jcI, jcL, jcR, gI_sI, gI_sL, gI_sR, gL_sI, gL_sL, gL_sR, gR_sI, gR_sL, gR_sR, gS_sI, gS_sL, gS_sR, gN_sI, gN_sL, gN_sR] | simp (disch := omega) only [Nat.zero_le, true_and, and_true, and_self, Nat.reduceLeDiff, true_or, or_true, false_or, or_false, Nat.reduceEqDiff, false_and, and_false, if_false, if_true, reduceIte, not_true_eq_false, not_false_eq_true, true_imp_iff, false_imp_iff, List.map_cons, List.map_nil, List.sum_cons, List.sum_nil, jcI, jcL, jcR, Nat.reduceAdd, jrv_s, j1r_c, jap_n, jap_c, gI_sI, gL_sL, gI_sL, gL_sI, an_lt, an_le, an_eq, an_lt0, an_0le, an_0lt, an_le0, an_eq0, an_eq1, an_1lt, an_le1, an_1le, an_lt1, an_eqm, an_sub, an_sub1, an_div, an_rem, an_in, an_in0, an_in1, an_cl, an_cl0, an_cl1, nI_add, nI_1, an_1a, pk_mul, Nat.reduceMul, jz10, jz01, j00, j11, jb0, Classical.not_not, eq_self, an_ite, an_of, an_nm, nI_l, lN_add, lN_mul, lN_i, lj_2, lj_3, lj_4, lj_5, lj_6, lj_7, lj_8, lj_9, lj_10, lj_11, lj_12, lj_13, lj_14, lj_15, lj_16, lj_17, lj_18, lj_19, lj_20, lj_21, lj_22, lj_23, lj_24, lj_25, lj_26, lj_27, lj_28, lj_29, lj_30, lj_31, lj_32, lj_33, lj_34, lj_35, lj_36, lj_37, lj_38, lj_39, lj_40, lj_48, lj_50, lj_57, lj_59, lj_60, lj_63, lj_64, lj_65, lj_90, lj_96, lj_97, lj_99, lj_100, lj_101, lj_105, lj_112, lj_114, lj_116, lj_119, lj_122, lj_128, lj_200, lj_255, lj_256, lj_500, lj_777, lj_1000] | (refine br_c (fun _ => ?_) (fun _ => ?_) <;> try (exfalso; omega)) | (refine br_d (fun _ => ?_) (fun _ => ?_) <;> try (exfalso; omega)) | refine And.intro ?_ ?_ | (refine Nat.ne_of_gt ?_; omega))
      all_goals exact kk
    | succ n ih =>
      intro j ν hj c hF e4 e5 ei hc
      have hWν := hF.wd hW
      have rfν := rwF ho hWν
      have kk := ih (j + 1) (sI ν (o + 1) j (gI ν (o + 2) j)) (by omega) c (hF.trans (jFr.sI (by simp))) (by rw [gI_sI, if_neg (fun z => by omega)]; exact e4) (by rw [gI_sI, if_neg (fun z => by omega)]; exact e5) (fun i h4 h5 => by rw [gI_sI, if_neg (fun z => by omega)]; exact ei i h4 h5) (fun i hi => by
        rw [gI_sI]
        by_cases e : i = j
        · rw [if_pos ⟨rfl, e⟩, e]
          exact (hF.1 (o + 2) (by simp)).1 j
        · rw [if_neg (fun z => e z.2)]
          exact hc i (by omega))
      generalize jsum (rAA T r) (last + 1) = S at *
      refine b71_71 ?_
      repeat' (first | refine b71_5 ?_ | refine b71_33 ?_ | refine b71_57 ?_ | refine b71_58 ?_ | refine b71_103 ?_ | dsimp only [jb_e0, jb_ec, jb_n, jb_c, jx_op, j1i_c, j2i_c, j1l_c, j2l_c, jil_c, j1r_c, jri_c, jrii_c, jril_c, jrl_c, jrr_c, j2i'_c, jdup_i, jdup_r, jdup2_c, jdup2_l, jpo_c, jli, jll, jlr, jat_0, jat_s, jst, jst2, jkill_i, jkill_r, jkill_l, jkill_n, jnone, jgv_0, jgv_1, jgv_2, jgv_3, jrv_s, jput_0, jput_1, jput_2, jput_3, jpop_0, jpop_1, jcl_s, jc1, jc2, jvi, Nat.reduceAdd, jol_i, jol_l, jol_n, jap_n, jap_c, List.map_cons, List.map_nil, List.sum_cons, List.sum_nil, jcI, jcL, jcR, gI_sI, gI_sL, gI_sR, gL_sI, gL_sL, gL_sR, gR_sI, gR_sL, gR_sR, gS_sI, gS_sL, gS_sR, gN_sI, gN_sL, gN_sR] | simp (disch := omega) only [Nat.zero_le, true_and, and_true, and_self, Nat.reduceLeDiff, true_or, or_true, false_or, or_false, Nat.reduceEqDiff, false_and, and_false, if_false, if_true, reduceIte, not_true_eq_false, not_false_eq_true, true_imp_iff, false_imp_iff, List.map_cons, List.map_nil, List.sum_cons, List.sum_nil, jcI, jcL, jcR, Nat.reduceAdd, jrv_s, j1r_c, jap_n, jap_c, gI_sI, gL_sL, gI_sL, gL_sI, an_lt, an_le, an_eq, an_lt0, an_0le, an_0lt, an_le0, an_eq0, an_eq1, an_1lt, an_le1, an_1le, an_lt1, an_eqm, an_sub, an_sub1, an_div, an_rem, an_in, an_in0, an_in1, an_cl, an_cl0, an_cl1, nI_add, nI_1, an_1a, pk_mul, Nat.reduceMul, jz10, jz01, j00, j11, jb0, Classical.not_not, eq_self, an_ite, an_of, an_nm, nI_l, lN_add, lN_mul, lN_i, lj_2, lj_3, lj_4, lj_5, lj_6, lj_7, lj_8, lj_9, lj_10, lj_11, lj_12, lj_13, lj_14, lj_15, lj_16, lj_17, lj_18, lj_19, lj_20, lj_21, lj_22, lj_23, lj_24, lj_25, lj_26, lj_27, lj_28, lj_29, lj_30, lj_31, lj_32, lj_33, lj_34, lj_35, lj_36, lj_37, lj_38, lj_39, lj_40, lj_48, lj_50, lj_57, lj_59, lj_60, lj_63, lj_64, lj_65, lj_90, lj_96, lj_97, lj_99, lj_100, lj_101, lj_105, lj_112, lj_114, lj_116, lj_119, lj_122, lj_128, lj_200, lj_255, lj_256, lj_500, lj_777, lj_1000, hWν.1, w, rfν, n1] | (refine br_c (fun _ => ?_) (fun _ => ?_) <;> try (exfalso; omega)) | (refine br_d (fun _ => ?_) (fun _ => ?_) <;> try (exfalso; omega)) | refine And.intro ?_ ?_ | (refine Nat.ne_of_gt ?_; omega))
      all_goals exact kk
  have loop : ∀ (n j : Nat), j + n = last + 1 → jR d 71 5 [some (.ref o), some (.int (nI last)), some (.int (nI M)), some (.int (nI (M + jsum (rAA T r) j))), some (.int (nI j))] [] (0, 0) μ Q := by
    intro n
    induction n with
    | zero =>
      intro j hj
      obtain rfl : j = last + 1 := by omega
      have p6 := pl (last + 1) (by omega)
      by_cases c : nI M < m0 ∨ nI M = m0 ∧ nI (M + jsum (rAA T r) (last + 1)) < l0
      · have kk := copy (last + 1) 0 (sI (sI μ o 4 (nI M)) o 5 (nI (M + jsum (rAA T r) (last + 1)))) (by omega) c ((jFr.sI (by simp)).trans (jFr.sI (by simp))) (by rw [gI_sI, if_neg (fun z => by omega), gI_sI, if_pos ⟨rfl, rfl⟩]) (by rw [gI_sI, if_pos ⟨rfl, rfl⟩]) (fun i h4 h5 => by rw [gI_sI, if_neg (fun z => h5 z.2), gI_sI, if_neg (fun z => h4 z.2)]) (fun i hi => absurd hi (Nat.not_lt_zero _))
        clear copy h0 h1
        generalize jsum (rAA T r) (last + 1) = S at *
        generalize hx : nI (M + S) = x at *
        generalize hy : nI M = y at *
        refine b71_5 ?_
        rcases c with c | ⟨c, c2⟩
        · have g1 := eq_false (show ¬ m0 < y by grind)
          have g2 := eq_false (show ¬ y = m0 by grind)
          repeat' (first | refine b71_33 ?_ | refine b71_57 ?_ | refine b71_58 ?_ | refine b71_103 ?_ | dsimp only [jb_e0, jb_ec, jb_n, jb_c, jx_op, j1i_c, j2i_c, j1l_c, j2l_c, jil_c, j1r_c, jri_c, jrii_c, jril_c, jrl_c, jrr_c, j2i'_c, jdup_i, jdup_r, jdup2_c, jdup2_l, jpo_c, jli, jll, jlr, jat_0, jat_s, jst, jst2, jkill_i, jkill_r, jkill_l, jkill_n, jnone, jgv_0, jgv_1, jgv_2, jgv_3, jrv_s, jput_0, jput_1, jput_2, jput_3, jpop_0, jpop_1, jcl_s, jc1, jc2, jvi, Nat.reduceAdd, jol_i, jol_l, jol_n, jap_n, jap_c, List.map_cons, List.map_nil, List.sum_cons, List.sum_nil, jcI, jcL, jcR, gI_sI, gI_sL, gI_sR, gL_sI, gL_sL, gL_sR, gR_sI, gR_sL, gR_sR, gS_sI, gS_sL, gS_sR, gN_sI, gN_sL, gN_sR] | simp (disch := omega) only [Nat.zero_le, true_and, and_true, and_self, Nat.reduceLeDiff, true_or, or_true, false_or, or_false, Nat.reduceEqDiff, false_and, and_false, if_false, if_true, reduceIte, not_true_eq_false, not_false_eq_true, true_imp_iff, false_imp_iff, List.map_cons, List.map_nil, List.sum_cons, List.sum_nil, jcI, jcL, jcR, Nat.reduceAdd, jrv_s, j1r_c, jap_n, jap_c, gI_sI, gL_sL, gI_sL, gL_sI, an_lt, an_le, an_eq, an_lt0, an_0le, an_0lt, an_le0, an_eq0, an_eq1, an_1lt, an_le1, an_1le, an_lt1, an_eqm, an_sub, an_sub1, an_div, an_rem, an_in, an_in0, an_in1, an_cl, an_cl0, an_cl1, nI_add, nI_1, an_1a, pk_mul, Nat.reduceMul, jz10, jz01, j00, j11, jb0, Classical.not_not, eq_self, an_ite, an_of, an_nm, nI_l, lN_add, lN_mul, lN_i, lj_2, lj_3, lj_4, lj_5, lj_6, lj_7, lj_8, lj_9, lj_10, lj_11, lj_12, lj_13, lj_14, lj_15, lj_16, lj_17, lj_18, lj_19, lj_20, lj_21, lj_22, lj_23, lj_24, lj_25, lj_26, lj_27, lj_28, lj_29, lj_30, lj_31, lj_32, lj_33, lj_34, lj_35, lj_36, lj_37, lj_38, lj_39, lj_40, lj_48, lj_50, lj_57, lj_59, lj_60, lj_63, lj_64, lj_65, lj_90, lj_96, lj_97, lj_99, lj_100, lj_101, lj_105, lj_112, lj_114, lj_116, lj_119, lj_122, lj_128, lj_200, lj_255, lj_256, lj_500, lj_777, lj_1000, hW.1, w, rf, hm, hl0, g1, g2] | (refine br_c (fun _ => ?_) (fun _ => ?_) <;> try (exfalso; omega)) | (refine br_d (fun _ => ?_) (fun _ => ?_) <;> try (exfalso; omega)) | refine And.intro ?_ ?_ | (refine Nat.ne_of_gt ?_; omega))
          all_goals exact kk
        · have g1 := eq_false (show ¬ m0 < y by grind)
          have g2 := eq_true c
          have g3 := eq_true c2
          repeat' (first | refine b71_33 ?_ | refine b71_57 ?_ | refine b71_58 ?_ | refine b71_103 ?_ | dsimp only [jb_e0, jb_ec, jb_n, jb_c, jx_op, j1i_c, j2i_c, j1l_c, j2l_c, jil_c, j1r_c, jri_c, jrii_c, jril_c, jrl_c, jrr_c, j2i'_c, jdup_i, jdup_r, jdup2_c, jdup2_l, jpo_c, jli, jll, jlr, jat_0, jat_s, jst, jst2, jkill_i, jkill_r, jkill_l, jkill_n, jnone, jgv_0, jgv_1, jgv_2, jgv_3, jrv_s, jput_0, jput_1, jput_2, jput_3, jpop_0, jpop_1, jcl_s, jc1, jc2, jvi, Nat.reduceAdd, jol_i, jol_l, jol_n, jap_n, jap_c, List.map_cons, List.map_nil, List.sum_cons, List.sum_nil, jcI, jcL, jcR, gI_sI, gI_sL, gI_sR, gL_sI, gL_sL, gL_sR, gR_sI, gR_sL, gR_sR, gS_sI, gS_sL, gS_sR, gN_sI, gN_sL, gN_sR] | simp (disch := omega) only [Nat.zero_le, true_and, and_true, and_self, Nat.reduceLeDiff, true_or, or_true, false_or, or_false, Nat.reduceEqDiff, false_and, and_false, if_false, if_true, reduceIte, not_true_eq_false, not_false_eq_true, true_imp_iff, false_imp_iff, List.map_cons, List.map_nil, List.sum_cons, List.sum_nil, jcI, jcL, jcR, Nat.reduceAdd, jrv_s, j1r_c, jap_n, jap_c, gI_sI, gL_sL, gI_sL, gL_sI, an_lt, an_le, an_eq, an_lt0, an_0le, an_0lt, an_le0, an_eq0, an_eq1, an_1lt, an_le1, an_1le, an_lt1, an_eqm, an_sub, an_sub1, an_div, an_rem, an_in, an_in0, an_in1, an_cl, an_cl0, an_cl1, nI_add, nI_1, an_1a, pk_mul, Nat.reduceMul, jz10, jz01, j00, j11, jb0, Classical.not_not, eq_self, an_ite, an_of, an_nm, nI_l, lN_add, lN_mul, lN_i, lj_2, lj_3, lj_4, lj_5, lj_6, lj_7, lj_8, lj_9, lj_10, lj_11, lj_12, lj_13, lj_14, lj_15, lj_16, lj_17, lj_18, lj_19, lj_20, lj_21, lj_22, lj_23, lj_24, lj_25, lj_26, lj_27, lj_28, lj_29, lj_30, lj_31, lj_32, lj_33, lj_34, lj_35, lj_36, lj_37, lj_38, lj_39, lj_40, lj_48, lj_50, lj_57, lj_59, lj_60, lj_63, lj_64, lj_65, lj_90, lj_96, lj_97, lj_99, lj_100, lj_101, lj_105, lj_112, lj_114, lj_116, lj_119, lj_122, lj_128, lj_200, lj_255, lj_256, lj_500, lj_777, lj_1000, hW.1, w, rf, hm, hl0, g1, g2, g3] | (refine br_c (fun _ => ?_) (fun _ => ?_) <;> try (exfalso; omega)) | (refine br_d (fun _ => ?_) (fun _ => ?_) <;> try (exfalso; omega)) | refine And.intro ?_ ?_ | (refine Nat.ne_of_gt ?_; omega))
          all_goals exact kk
      · have kk := h0 c
        clear copy h0 h1
        generalize jsum (rAA T r) (last + 1) = S at *
        generalize hx : nI (M + S) = x at *
        generalize hy : nI M = y at *
        refine b71_5 ?_
        by_cases c1 : m0 < y
        · have g1 := eq_true c1
          repeat' (first | refine b71_33 ?_ | refine b71_57 ?_ | refine b71_58 ?_ | refine b71_103 ?_ | dsimp only [jb_e0, jb_ec, jb_n, jb_c, jx_op, j1i_c, j2i_c, j1l_c, j2l_c, jil_c, j1r_c, jri_c, jrii_c, jril_c, jrl_c, jrr_c, j2i'_c, jdup_i, jdup_r, jdup2_c, jdup2_l, jpo_c, jli, jll, jlr, jat_0, jat_s, jst, jst2, jkill_i, jkill_r, jkill_l, jkill_n, jnone, jgv_0, jgv_1, jgv_2, jgv_3, jrv_s, jput_0, jput_1, jput_2, jput_3, jpop_0, jpop_1, jcl_s, jc1, jc2, jvi, Nat.reduceAdd, jol_i, jol_l, jol_n, jap_n, jap_c, List.map_cons, List.map_nil, List.sum_cons, List.sum_nil, jcI, jcL, jcR, gI_sI, gI_sL, gI_sR, gL_sI, gL_sL, gL_sR, gR_sI, gR_sL, gR_sR, gS_sI, gS_sL, gS_sR, gN_sI, gN_sL, gN_sR] | simp (disch := omega) only [Nat.zero_le, true_and, and_true, and_self, Nat.reduceLeDiff, true_or, or_true, false_or, or_false, Nat.reduceEqDiff, false_and, and_false, if_false, if_true, reduceIte, not_true_eq_false, not_false_eq_true, true_imp_iff, false_imp_iff, List.map_cons, List.map_nil, List.sum_cons, List.sum_nil, jcI, jcL, jcR, Nat.reduceAdd, jrv_s, j1r_c, jap_n, jap_c, gI_sI, gL_sL, gI_sL, gL_sI, an_lt, an_le, an_eq, an_lt0, an_0le, an_0lt, an_le0, an_eq0, an_eq1, an_1lt, an_le1, an_1le, an_lt1, an_eqm, an_sub, an_sub1, an_div, an_rem, an_in, an_in0, an_in1, an_cl, an_cl0, an_cl1, nI_add, nI_1, an_1a, pk_mul, Nat.reduceMul, jz10, jz01, j00, j11, jb0, Classical.not_not, eq_self, an_ite, an_of, an_nm, nI_l, lN_add, lN_mul, lN_i, lj_2, lj_3, lj_4, lj_5, lj_6, lj_7, lj_8, lj_9, lj_10, lj_11, lj_12, lj_13, lj_14, lj_15, lj_16, lj_17, lj_18, lj_19, lj_20, lj_21, lj_22, lj_23, lj_24, lj_25, lj_26, lj_27, lj_28, lj_29, lj_30, lj_31, lj_32, lj_33, lj_34, lj_35, lj_36, lj_37, lj_38, lj_39, lj_40, lj_48, lj_50, lj_57, lj_59, lj_60, lj_63, lj_64, lj_65, lj_90, lj_96, lj_97, lj_99, lj_100, lj_101, lj_105, lj_112, lj_114, lj_116, lj_119, lj_122, lj_128, lj_200, lj_255, lj_256, lj_500, lj_777, lj_1000, hW.1, w, rf, hm, hl0, g1] | (refine br_c (fun _ => ?_) (fun _ => ?_) <;> try (exfalso; omega)) | (refine br_d (fun _ => ?_) (fun _ => ?_) <;> try (exfalso; omega)) | refine And.intro ?_ ?_ | (refine Nat.ne_of_gt ?_; omega))
          all_goals exact kk
        · have g1 := eq_false c1
          have g2 := eq_true (show y = m0 by grind)
          have g3 := eq_false (show ¬ x < l0 by grind)
          repeat' (first | refine b71_33 ?_ | refine b71_57 ?_ | refine b71_58 ?_ | refine b71_103 ?_ | dsimp only [jb_e0, jb_ec, jb_n, jb_c, jx_op, j1i_c, j2i_c, j1l_c, j2l_c, jil_c, j1r_c, jri_c, jrii_c, jril_c, jrl_c, jrr_c, j2i'_c, jdup_i, jdup_r, jdup2_c, jdup2_l, jpo_c, jli, jll, jlr, jat_0, jat_s, jst, jst2, jkill_i, jkill_r, jkill_l, jkill_n, jnone, jgv_0, jgv_1, jgv_2, jgv_3, jrv_s, jput_0, jput_1, jput_2, jput_3, jpop_0, jpop_1, jcl_s, jc1, jc2, jvi, Nat.reduceAdd, jol_i, jol_l, jol_n, jap_n, jap_c, List.map_cons, List.map_nil, List.sum_cons, List.sum_nil, jcI, jcL, jcR, gI_sI, gI_sL, gI_sR, gL_sI, gL_sL, gL_sR, gR_sI, gR_sL, gR_sR, gS_sI, gS_sL, gS_sR, gN_sI, gN_sL, gN_sR] | simp (disch := omega) only [Nat.zero_le, true_and, and_true, and_self, Nat.reduceLeDiff, true_or, or_true, false_or, or_false, Nat.reduceEqDiff, false_and, and_false, if_false, if_true, reduceIte, not_true_eq_false, not_false_eq_true, true_imp_iff, false_imp_iff, List.map_cons, List.map_nil, List.sum_cons, List.sum_nil, jcI, jcL, jcR, Nat.reduceAdd, jrv_s, j1r_c, jap_n, jap_c, gI_sI, gL_sL, gI_sL, gL_sI, an_lt, an_le, an_eq, an_lt0, an_0le, an_0lt, an_le0, an_eq0, an_eq1, an_1lt, an_le1, an_1le, an_lt1, an_eqm, an_sub, an_sub1, an_div, an_rem, an_in, an_in0, an_in1, an_cl, an_cl0, an_cl1, nI_add, nI_1, an_1a, pk_mul, Nat.reduceMul, jz10, jz01, j00, j11, jb0, Classical.not_not, eq_self, an_ite, an_of, an_nm, nI_l, lN_add, lN_mul, lN_i, lj_2, lj_3, lj_4, lj_5, lj_6, lj_7, lj_8, lj_9, lj_10, lj_11, lj_12, lj_13, lj_14, lj_15, lj_16, lj_17, lj_18, lj_19, lj_20, lj_21, lj_22, lj_23, lj_24, lj_25, lj_26, lj_27, lj_28, lj_29, lj_30, lj_31, lj_32, lj_33, lj_34, lj_35, lj_36, lj_37, lj_38, lj_39, lj_40, lj_48, lj_50, lj_57, lj_59, lj_60, lj_63, lj_64, lj_65, lj_90, lj_96, lj_97, lj_99, lj_100, lj_101, lj_105, lj_112, lj_114, lj_116, lj_119, lj_122, lj_128, lj_200, lj_255, lj_256, lj_500, lj_777, lj_1000, hW.1, w, rf, hm, hl0, g1, g2, g3] | (refine br_c (fun _ => ?_) (fun _ => ?_) <;> try (exfalso; omega)) | (refine br_d (fun _ => ?_) (fun _ => ?_) <;> try (exfalso; omega)) | refine And.intro ?_ ?_ | (refine Nat.ne_of_gt ?_; omega))
          all_goals exact kk
    | succ n ih =>
      intro j hj
      have kk := ih (j + 1) (by omega)
      have eA := hA j (by omega)
      have p6 := pl j (by omega)
      have pb := hb j
      rw [jsum, ← Nat.add_assoc] at kk
      generalize jsum (rAA T r) j = S at *
      generalize rAA T r j = w1 at *
      refine b71_5 ?_
      repeat' (first | refine b71_57 ?_ | refine b71_58 ?_ | refine b71_71 ?_ | refine b71_103 ?_ | dsimp only [jb_e0, jb_ec, jb_n, jb_c, jx_op, j1i_c, j2i_c, j1l_c, j2l_c, jil_c, j1r_c, jri_c, jrii_c, jril_c, jrl_c, jrr_c, j2i'_c, jdup_i, jdup_r, jdup2_c, jdup2_l, jpo_c, jli, jll, jlr, jat_0, jat_s, jst, jst2, jkill_i, jkill_r, jkill_l, jkill_n, jnone, jgv_0, jgv_1, jgv_2, jgv_3, jrv_s, jput_0, jput_1, jput_2, jput_3, jpop_0, jpop_1, jcl_s, jc1, jc2, jvi, Nat.reduceAdd, jol_i, jol_l, jol_n, jap_n, jap_c, List.map_cons, List.map_nil, List.sum_cons, List.sum_nil, jcI, jcL, jcR, gI_sI, gI_sL, gI_sR, gL_sI, gL_sL, gL_sR, gR_sI, gR_sL, gR_sR, gS_sI, gS_sL, gS_sR, gN_sI, gN_sL, gN_sR] | simp (disch := omega) only [Nat.zero_le, true_and, and_true, and_self, Nat.reduceLeDiff, true_or, or_true, false_or, or_false, Nat.reduceEqDiff, false_and, and_false, if_false, if_true, reduceIte, not_true_eq_false, not_false_eq_true, true_imp_iff, false_imp_iff, List.map_cons, List.map_nil, List.sum_cons, List.sum_nil, jcI, jcL, jcR, Nat.reduceAdd, jrv_s, j1r_c, jap_n, jap_c, gI_sI, gL_sL, gI_sL, gL_sI, an_lt, an_le, an_eq, an_lt0, an_0le, an_0lt, an_le0, an_eq0, an_eq1, an_1lt, an_le1, an_1le, an_lt1, an_eqm, an_sub, an_sub1, an_div, an_rem, an_in, an_in0, an_in1, an_cl, an_cl0, an_cl1, nI_add, nI_1, an_1a, pk_mul, Nat.reduceMul, jz10, jz01, j00, j11, jb0, Classical.not_not, eq_self, an_ite, an_of, an_nm, nI_l, lN_add, lN_mul, lN_i, lj_2, lj_3, lj_4, lj_5, lj_6, lj_7, lj_8, lj_9, lj_10, lj_11, lj_12, lj_13, lj_14, lj_15, lj_16, lj_17, lj_18, lj_19, lj_20, lj_21, lj_22, lj_23, lj_24, lj_25, lj_26, lj_27, lj_28, lj_29, lj_30, lj_31, lj_32, lj_33, lj_34, lj_35, lj_36, lj_37, lj_38, lj_39, lj_40, lj_48, lj_50, lj_57, lj_59, lj_60, lj_63, lj_64, lj_65, lj_90, lj_96, lj_97, lj_99, lj_100, lj_101, lj_105, lj_112, lj_114, lj_116, lj_119, lj_122, lj_128, lj_200, lj_255, lj_256, lj_500, lj_777, lj_1000, hW.1, w, rf, eA] | (refine br_c (fun _ => ?_) (fun _ => ?_) <;> try (exfalso; omega)) | (refine br_d (fun _ => ?_) (fun _ => ?_) <;> try (exfalso; omega)) | refine And.intro ?_ ?_ | (refine Nat.ne_of_gt ?_; omega))
      all_goals exact kk
  have kk := loop (last + 1) 0 (by omega)
  have z : M + jsum (rAA T r) 0 = M := rfl
  rw [z] at kk
  refine e71 (b71_0 ?_)
  repeat' (first | refine b71_33 ?_ | refine b71_57 ?_ | refine b71_58 ?_ | refine b71_71 ?_ | refine b71_103 ?_ | dsimp only [jb_e0, jb_ec, jb_n, jb_c, jx_op, j1i_c, j2i_c, j1l_c, j2l_c, jil_c, j1r_c, jri_c, jrii_c, jril_c, jrl_c, jrr_c, j2i'_c, jdup_i, jdup_r, jdup2_c, jdup2_l, jpo_c, jli, jll, jlr, jat_0, jat_s, jst, jst2, jkill_i, jkill_r, jkill_l, jkill_n, jnone, jgv_0, jgv_1, jgv_2, jgv_3, jrv_s, jput_0, jput_1, jput_2, jput_3, jpop_0, jpop_1, jcl_s, jc1, jc2, jvi, Nat.reduceAdd, jol_i, jol_l, jol_n, jap_n, jap_c, List.map_cons, List.map_nil, List.sum_cons, List.sum_nil, jcI, jcL, jcR, gI_sI, gI_sL, gI_sR, gL_sI, gL_sL, gL_sR, gR_sI, gR_sL, gR_sR, gS_sI, gS_sL, gS_sR, gN_sI, gN_sL, gN_sR] | simp (disch := omega) only [Nat.zero_le, true_and, and_true, and_self, Nat.reduceLeDiff, true_or, or_true, false_or, or_false, Nat.reduceEqDiff, false_and, and_false, if_false, if_true, reduceIte, not_true_eq_false, not_false_eq_true, true_imp_iff, false_imp_iff, List.map_cons, List.map_nil, List.sum_cons, List.sum_nil, jcI, jcL, jcR, Nat.reduceAdd, jrv_s, j1r_c, jap_n, jap_c, gI_sI, gL_sL, gI_sL, gL_sI, an_lt, an_le, an_eq, an_lt0, an_0le, an_0lt, an_le0, an_eq0, an_eq1, an_1lt, an_le1, an_1le, an_lt1, an_eqm, an_sub, an_sub1, an_div, an_rem, an_in, an_in0, an_in1, an_cl, an_cl0, an_cl1, nI_add, nI_1, an_1a, pk_mul, Nat.reduceMul, jz10, jz01, j00, j11, jb0, Classical.not_not, eq_self, an_ite, an_of, an_nm, nI_l, lN_add, lN_mul, lN_i, lj_2, lj_3, lj_4, lj_5, lj_6, lj_7, lj_8, lj_9, lj_10, lj_11, lj_12, lj_13, lj_14, lj_15, lj_16, lj_17, lj_18, lj_19, lj_20, lj_21, lj_22, lj_23, lj_24, lj_25, lj_26, lj_27, lj_28, lj_29, lj_30, lj_31, lj_32, lj_33, lj_34, lj_35, lj_36, lj_37, lj_38, lj_39, lj_40, lj_48, lj_50, lj_57, lj_59, lj_60, lj_63, lj_64, lj_65, lj_90, lj_96, lj_97, lj_99, lj_100, lj_101, lj_105, lj_112, lj_114, lj_116, lj_119, lj_122, lj_128, lj_200, lj_255, lj_256, lj_500, lj_777, lj_1000] | (refine br_c (fun _ => ?_) (fun _ => ?_) <;> try (exfalso; omega)) | (refine br_d (fun _ => ?_) (fun _ => ?_) <;> try (exfalso; omega)) | refine And.intro ?_ ?_ | (refine Nat.ne_of_gt ?_; omega))
  all_goals exact kk
/-- among the codes gone through, up to one: the first of those by which most meet -/
def rTop (al : Bool) (T : jT) (r : Nat → Nat) (k : Nat) (told : Option Nat) (c0 : Nat) : Prop := (rV al T k c0 ∧ c0 < 25 ∧ ∃ c1, told = some c1 ∧ c0 ≤ c1) ∧ ∀ y, rV al T k y → y < 25 → (∃ c1, told = some c1 ∧ y ≤ c1) → rMt T r k y < rMt T r k c0 ∨ (rMt T r k y = rMt T r k c0 ∧ c0 ≤ y)
theorem end_loop (hW : jWd L t μ) (hK : jTok T) (ho : jRO al o) (hl : lyB T 25 μ) (hk : k < 5) (h1 : gI μ o 1 = jbi al) (h2 : gI μ o 2 = nI (rMx T (tP T))) (h3 : gI μ o 3 = nI (k + 1)) (hR : ∀ pr, pr < 64 → gI μ (o + 4 + k) pr = nI (rAp T r k pr)) (hA : gI μ (o + 9) k = nI (rAA T r k))
    (h : ∀ c0, (rV al T k c0 ∧ c0 < 25) → (∀ y, rV al T k y → y < 25 → rMt T r k y < rMt T r k c0 ∨ (rMt T r k y = rMt T r k c0 ∧ c0 ≤ y)) → ∀ ν, jFr [o + 2] μ ν → (∀ j, gI ν (o + 2) j = if j = k then nI c0 else gI μ (o + 2) j) → ∀ Q' : jQ, (∀ ξ, Q none ξ → Q' none ξ) → jC (d + 1) 71 [.ref o, .int (nI k), .int (nI (rAA T r k - rMt T r k c0))] ν Q') :
    ∀ (n j : Nat) (told nx : Option Nat) (ν : jMem) (c0 : Nat) (z6 : Option Value), j + n = 25 → (∀ c1, told = some c1 → rV al T k c1 ∧ c1 < 25 ∧ j ≤ c1 + 1) → (nx = fol al (tSd T k) (rMx T (tP T)) told) → (told = none → j = 0) → jFr [o + 2] μ ν → (∀ i, i ≠ k → gI ν (o + 2) i = gI μ (o + 2) i) → (told ≠ none → rTop al T r k told c0 ∧ gI ν (o + 2) k = nI c0) → jR (d + 2) 70 30 [some (.ref o), some (.int (jbi (tSd T k))), some (.int (nI k)), some (.int (if told = none then -1 else nI (rMt T r k c0))), some (.int (oI nx)), some (.int (nI j)), z6] [] (0, 0) ν Q := by
  have hm := rMx_4 hK (tP T) (Nat.le_refl _)
  have o100 : 102 ≤ o := by rcases ho with ⟨_, rfl⟩ | ⟨_, rfl⟩ <;> omega
  have fin : ∀ (j : Nat) (told : Option Nat) (ν : jMem) (c0 : Nat) (z6 : Option Value), told ≠ none → (∀ y, rV al T k y → y < 25 → ∃ c1, told = some c1 ∧ y ≤ c1) → jFr [o + 2] μ ν → (∀ i, i ≠ k → gI ν (o + 2) i = gI μ (o + 2) i) → rTop al T r k told c0 → gI ν (o + 2) k = nI c0 → ∀ z4 : Option Value, jR (d + 2) 70 92 [some (.ref o), some (.int (jbi (tSd T k))), some (.int (nI k)), some (.int (nI (rMt T r k c0))), z4, some (.int (nI j)), z6] [] (0, 0) ν Q := by
    intro j told ν c0 z6 hne hall hF hi hT hc z4
    have hWν := hF.wd hW
    have rf := rwF ho hWν
    have w := rwS L ho
    have kb := h c0 ⟨hT.1.1, hT.1.2.1⟩ (fun y y1 y2 => hT.2 y y1 y2 (hall y y1 y2)) ν hF (fun j => by
      by_cases e : j = k
      · rw [if_pos e, e]
        exact hc
      · rw [if_neg e]
        exact hi j e)
    have eA : gI ν (o + 9) k = nI (rAA T r k) := by
      rw [(hF.1 (o + 9) (by simp)).1]
      exact hA
    have q1 := rMt_le (T := T) (r := r) (k := k) (c := c0) hK
    have q2 := rAA_le (T := T) (r := r) (k := k) hK
    generalize rMt T r k c0 = M at *
    generalize rAA T r k = S at *
    refine b70_92 ?_
    repeat' (first | refine b70_16 ?_ | refine b70_17 ?_ | refine b70_77 ?_ | refine b70_92 ?_ | refine kb _ (fun ξ hξ => ?_) | dsimp only [jb_e0, jb_ec, jb_n, jb_c, jx_op, j1i_c, j2i_c, j1l_c, j2l_c, jil_c, j1r_c, jri_c, jrii_c, jril_c, jrl_c, jrr_c, j2i'_c, jdup_i, jdup_r, jdup2_c, jdup2_l, jpo_c, jli, jll, jlr, jat_0, jat_s, jst, jst2, jkill_i, jkill_r, jkill_l, jkill_n, jnone, jgv_0, jgv_1, jgv_2, jgv_3, jrv_s, jput_0, jput_1, jput_2, jput_3, jpop_0, jpop_1, jcl_s, jc1, jc2, jvi, Nat.reduceAdd, jol_i, jol_l, jol_n, jap_n, jap_c, List.map_cons, List.map_nil, List.sum_cons, List.sum_nil, jcI, jcL, jcR, gI_sI, gI_sL, gI_sR, gL_sI, gL_sL, gL_sR, gR_sI, gR_sL, gR_sR, gS_sI, gS_sL, gS_sR, gN_sI, gN_sL, gN_sR] | simp (disch := omega) only [Nat.zero_le, true_and, and_true, and_self, Nat.reduceLeDiff, true_or, or_true, false_or, or_false, Nat.reduceEqDiff, false_and, and_false, if_false, if_true, reduceIte, not_true_eq_false, not_false_eq_true, true_imp_iff, false_imp_iff, List.map_cons, List.map_nil, List.sum_cons, List.sum_nil, jcI, jcL, jcR, Nat.reduceAdd, jrv_s, j1r_c, jap_n, jap_c, gI_sI, gL_sL, gI_sL, gL_sI, an_lt, an_le, an_eq, an_lt0, an_0le, an_0lt, an_le0, an_eq0, an_eq1, an_1lt, an_le1, an_1le, an_lt1, an_eqm, an_sub, an_sub1, an_div, an_rem, an_in, an_in0, an_in1, an_cl, an_cl0, an_cl1, nI_add, nI_1, an_1a, pk_mul, Nat.reduceMul, jz10, jz01, j00, j11, jb0, Classical.not_not, eq_self, an_ite, an_of, an_nm, nI_l, lN_add, lN_mul, lN_i, lj_2, lj_3, lj_4, lj_5, lj_6, lj_7, lj_8, lj_9, lj_10, lj_11, lj_12, lj_13, lj_14, lj_15, lj_16, lj_17, lj_18, lj_19, lj_20, lj_21, lj_22, lj_23, lj_24, lj_25, lj_26, lj_27, lj_28, lj_29, lj_30, lj_31, lj_32, lj_33, lj_34, lj_35, lj_36, lj_37, lj_38, lj_39, lj_40, lj_48, lj_50, lj_57, lj_59, lj_60, lj_63, lj_64, lj_65, lj_90, lj_96, lj_97, lj_99, lj_100, lj_101, lj_105, lj_112, lj_114, lj_116, lj_119, lj_122, lj_128, lj_200, lj_255, lj_256, lj_500, lj_777, lj_1000, hWν.1, w, rf, eA] | (refine br_c (fun _ => ?_) (fun _ => ?_) <;> try (exfalso; omega)) | (refine br_d (fun _ => ?_) (fun _ => ?_) <;> try (exfalso; omega)) | refine And.intro ?_ ?_ | (refine Nat.ne_of_gt ?_; omega))
    all_goals exact hξ
  intro n
  induction n with
  | zero =>
    intro j told nx ν c0 z6 hj ht hnx hj0 hF hi hT
    obtain rfl : j = 25 := by omega
    have hne : told ≠ none := fun z => by
      have := hj0 z
      omega
    obtain ⟨hT1, hT2⟩ := hT hne
    have kk := fin 25 told ν c0 z6 hne (fun y y1 y2 => by
      cases told with
      | none => exact absurd rfl hne
      | some c1 =>
        have := ht c1 rfl
        exact ⟨c1, rfl, by omega⟩) hF hi hT1 hT2 (some (.int (oI nx)))
    rw [if_neg hne]
    refine b70_30 ?_
    repeat' (first | refine b70_16 ?_ | refine b70_17 ?_ | refine b70_77 ?_ | dsimp only [jb_e0, jb_ec, jb_n, jb_c, jx_op, j1i_c, j2i_c, j1l_c, j2l_c, jil_c, j1r_c, jri_c, jrii_c, jril_c, jrl_c, jrr_c, j2i'_c, jdup_i, jdup_r, jdup2_c, jdup2_l, jpo_c, jli, jll, jlr, jat_0, jat_s, jst, jst2, jkill_i, jkill_r, jkill_l, jkill_n, jnone, jgv_0, jgv_1, jgv_2, jgv_3, jrv_s, jput_0, jput_1, jput_2, jput_3, jpop_0, jpop_1, jcl_s, jc1, jc2, jvi, Nat.reduceAdd, jol_i, jol_l, jol_n, jap_n, jap_c, List.map_cons, List.map_nil, List.sum_cons, List.sum_nil, jcI, jcL, jcR, gI_sI, gI_sL, gI_sR, gL_sI, gL_sL, gL_sR, gR_sI, gR_sL, gR_sR, gS_sI, gS_sL, gS_sR, gN_sI, gN_sL, gN_sR] | simp (disch := omega) only [Nat.zero_le, true_and, and_true, and_self, Nat.reduceLeDiff, true_or, or_true, false_or, or_false, Nat.reduceEqDiff, false_and, and_false, if_false, if_true, reduceIte, not_true_eq_false, not_false_eq_true, true_imp_iff, false_imp_iff, List.map_cons, List.map_nil, List.sum_cons, List.sum_nil, jcI, jcL, jcR, Nat.reduceAdd, jrv_s, j1r_c, jap_n, jap_c, gI_sI, gL_sL, gI_sL, gL_sI, an_lt, an_le, an_eq, an_lt0, an_0le, an_0lt, an_le0, an_eq0, an_eq1, an_1lt, an_le1, an_1le, an_lt1, an_eqm, an_sub, an_sub1, an_div, an_rem, an_in, an_in0, an_in1, an_cl, an_cl0, an_cl1, nI_add, nI_1, an_1a, pk_mul, Nat.reduceMul, jz10, jz01, j00, j11, jb0, Classical.not_not, eq_self, an_ite, an_of, an_nm, nI_l, lN_add, lN_mul, lN_i, lj_2, lj_3, lj_4, lj_5, lj_6, lj_7, lj_8, lj_9, lj_10, lj_11, lj_12, lj_13, lj_14, lj_15, lj_16, lj_17, lj_18, lj_19, lj_20, lj_21, lj_22, lj_23, lj_24, lj_25, lj_26, lj_27, lj_28, lj_29, lj_30, lj_31, lj_32, lj_33, lj_34, lj_35, lj_36, lj_37, lj_38, lj_39, lj_40, lj_48, lj_50, lj_57, lj_59, lj_60, lj_63, lj_64, lj_65, lj_90, lj_96, lj_97, lj_99, lj_100, lj_101, lj_105, lj_112, lj_114, lj_116, lj_119, lj_122, lj_128, lj_200, lj_255, lj_256, lj_500, lj_777, lj_1000] | (refine br_c (fun _ => ?_) (fun _ => ?_) <;> try (exfalso; omega)) | (refine br_d (fun _ => ?_) (fun _ => ?_) <;> try (exfalso; omega)) | refine And.intro ?_ ?_ | (refine Nat.ne_of_gt ?_; omega))
    all_goals exact kk
  | succ n ih =>
    intro j told nx ν c0 z6 hj ht hnx hj0 hF hi hT
    have hWν := hF.wd hW
    have rf := rwF ho hWν
    have w := rwS L ho
    have rA := rwF4 ho hWν (j := k) hk
    have sA := rwS4 L ho (j := k) hk
    have n2 := eq_false (show ¬ o + 2 = 0 by omega)
    have oth : ∀ a, a ≠ o + 2 → ∀ i, gI ν a i = gI μ a i := fun a na i => (hF.1 a (by simpa using na)).1 i
    cases hf : nx with
    | none =>
      have hall := fol_none (al := al) (T := T) (k := k) (told := told) (fun c1 z => ⟨(ht c1 z).1, (ht c1 z).2.1⟩) (by rw [← hnx]; exact hf)
      have hne : told ≠ none := fun z => by
        obtain ⟨cf, hcf⟩ := fol_first (al := al) (T := T) (k := k)
        rw [z, hcf, hf] at hnx
        cases hnx
      obtain ⟨hT1, hT2⟩ := hT hne
      have kk := fin j told ν c0 z6 hne hall hF hi hT1 hT2 (some (.int (-1)))
      have eo : oI none = -1 := rfl
      rw [if_neg hne]
      refine b70_30 ?_
      repeat' (first | refine b70_16 ?_ | refine b70_17 ?_ | refine b70_77 ?_ | dsimp only [jb_e0, jb_ec, jb_n, jb_c, jx_op, j1i_c, j2i_c, j1l_c, j2l_c, jil_c, j1r_c, jri_c, jrii_c, jril_c, jrl_c, jrr_c, j2i'_c, jdup_i, jdup_r, jdup2_c, jdup2_l, jpo_c, jli, jll, jlr, jat_0, jat_s, jst, jst2, jkill_i, jkill_r, jkill_l, jkill_n, jnone, jgv_0, jgv_1, jgv_2, jgv_3, jrv_s, jput_0, jput_1, jput_2, jput_3, jpop_0, jpop_1, jcl_s, jc1, jc2, jvi, Nat.reduceAdd, jol_i, jol_l, jol_n, jap_n, jap_c, List.map_cons, List.map_nil, List.sum_cons, List.sum_nil, jcI, jcL, jcR, gI_sI, gI_sL, gI_sR, gL_sI, gL_sL, gL_sR, gR_sI, gR_sL, gR_sR, gS_sI, gS_sL, gS_sR, gN_sI, gN_sL, gN_sR] | simp (disch := omega) only [Nat.zero_le, true_and, and_true, and_self, Nat.reduceLeDiff, true_or, or_true, false_or, or_false, Nat.reduceEqDiff, false_and, and_false, if_false, if_true, reduceIte, not_true_eq_false, not_false_eq_true, true_imp_iff, false_imp_iff, List.map_cons, List.map_nil, List.sum_cons, List.sum_nil, jcI, jcL, jcR, Nat.reduceAdd, jrv_s, j1r_c, jap_n, jap_c, gI_sI, gL_sL, gI_sL, gL_sI, an_lt, an_le, an_eq, an_lt0, an_0le, an_0lt, an_le0, an_eq0, an_eq1, an_1lt, an_le1, an_1le, an_lt1, an_eqm, an_sub, an_sub1, an_div, an_rem, an_in, an_in0, an_in1, an_cl, an_cl0, an_cl1, nI_add, nI_1, an_1a, pk_mul, Nat.reduceMul, jz10, jz01, j00, j11, jb0, Classical.not_not, eq_self, an_ite, an_of, an_nm, nI_l, lN_add, lN_mul, lN_i, lj_2, lj_3, lj_4, lj_5, lj_6, lj_7, lj_8, lj_9, lj_10, lj_11, lj_12, lj_13, lj_14, lj_15, lj_16, lj_17, lj_18, lj_19, lj_20, lj_21, lj_22, lj_23, lj_24, lj_25, lj_26, lj_27, lj_28, lj_29, lj_30, lj_31, lj_32, lj_33, lj_34, lj_35, lj_36, lj_37, lj_38, lj_39, lj_40, lj_48, lj_50, lj_57, lj_59, lj_60, lj_63, lj_64, lj_65, lj_90, lj_96, lj_97, lj_99, lj_100, lj_101, lj_105, lj_112, lj_114, lj_116, lj_119, lj_122, lj_128, lj_200, lj_255, lj_256, lj_500, lj_777, lj_1000, eo] | (refine br_c (fun _ => ?_) (fun _ => ?_) <;> try (exfalso; omega)) | (refine br_d (fun _ => ?_) (fun _ => ?_) <;> try (exfalso; omega)) | refine And.intro ?_ ?_ | (refine Nat.ne_of_gt ?_; omega))
      all_goals exact kk
    | some c =>
      rw [hf] at hnx
      obtain ⟨⟨f1, f2⟩, f3, f4⟩ := fol_some (al := al) (T := T) (k := k) (told := told) (fun c1 z => ⟨(ht c1 z).1, (ht c1 z).2.1⟩) hnx.symm
      have eo : oI (some c) = nI c := rfl
      have jc : j ≤ c := by
        cases ht2 : told with
        | none =>
          have := hj0 ht2
          omega
        | some c1 =>
          have := ht c1 ht2
          have := f3 c1 ht2
          omega
      have lB : lyB T 25 ν := fun c' hc' => lyA_of (oth _ (by omega)) (oth _ (by omega)) (oth _ (by omega) c') (hl c' hc')
      have me : ∀ (d : Nat) (Q' : jQ), Q' (some (.int (nI (rMt T r k c)))) ν → jC (d + 1) 38 [.ref 48, .int (nI c), .ref (o + 4 + k)] ν Q' := fun d Q' kq => sp_metOf (f := rAp T r k) hWν f2 (lB c f2) ((hWν.1 _).trans sA) (fun pr hpr => by rw [oth _ (by omega)]; exact hR pr hpr) (fun pr hpr => by
        have := rAp_le (T := T) (r := r) (k := k) hK hpr
        omega) kq
      have q1 := rMt_le (T := T) (r := r) (k := k) (c := c) hK
      have q2 := rAA_le (T := T) (r := r) (k := k) hK
      have q3 := rMt_le (T := T) (r := r) (k := k) (c := c0) hK
      have step : ∀ (ξ : jMem) (c2 : Nat), jFr [o + 2] μ ξ → (∀ i, i ≠ k → gI ξ (o + 2) i = gI μ (o + 2) i) → rTop al T r k (some c) c2 → gI ξ (o + 2) k = nI c2 → ∀ (v3 : Nat), v3 = rMt T r k c2 → jR (d + 2) 70 77 [some (.ref o), some (.int (jbi (tSd T k))), some (.int (nI k)), some (.int (nI v3)), some (.int (nI c)), some (.int (nI j)), some (.int (nI (rMt T r k c)))] [] (0, 0) ξ Q := by
        intro ξ c2 G hi2 hT2 hc2 v3 hv3
        have hWξ := G.wd hW
        have w := rwS L ho
        have fw : ∀ (d : Nat) (Q' : jQ), Q' (some (.int (oI (fol al (tSd T k) (rMx T (tP T)) (some c))))) ξ → jC d 68 [.ref o, .int (nI c), .int (jbi (tSd T k))] ξ Q' := fun d Q' kq => sp_following (told := some c) hWξ ho (by rw [(G.1 o (by simp)).1]; exact h1) (by rw [(G.1 o (by simp)).1]; exact h2) hm (fun c0 z => by cases z; exact f2) kq
        have kk := ih (j + 1) (some c) _ ξ c2 (some (.int (nI (rMt T r k c)))) (by omega) (fun c1 z => by cases z; exact ⟨f1, f2, by omega⟩) rfl (fun z => by cases z) G hi2 (fun _ => ⟨hT2, hc2⟩)
        rw [if_neg (fun z => by cases z), ← hv3] at kk
        generalize oI (fol al (tSd T k) (rMx T (tP T)) (some c)) = x at *
        generalize rMt T r k c = y at *
        generalize jbi (tSd T k) = v1 at *
        refine b70_77 ?_
        repeat' (first | refine b70_16 ?_ | refine b70_17 ?_ | refine b70_77 ?_ | refine b70_92 ?_ | refine fw _ _ ?_ | dsimp only [jb_e0, jb_ec, jb_n, jb_c, jx_op, j1i_c, j2i_c, j1l_c, j2l_c, jil_c, j1r_c, jri_c, jrii_c, jril_c, jrl_c, jrr_c, j2i'_c, jdup_i, jdup_r, jdup2_c, jdup2_l, jpo_c, jli, jll, jlr, jat_0, jat_s, jst, jst2, jkill_i, jkill_r, jkill_l, jkill_n, jnone, jgv_0, jgv_1, jgv_2, jgv_3, jrv_s, jput_0, jput_1, jput_2, jput_3, jpop_0, jpop_1, jcl_s, jc1, jc2, jvi, Nat.reduceAdd, jol_i, jol_l, jol_n, jap_n, jap_c, List.map_cons, List.map_nil, List.sum_cons, List.sum_nil, jcI, jcL, jcR, gI_sI, gI_sL, gI_sR, gL_sI, gL_sL, gL_sR, gR_sI, gR_sL, gR_sR, gS_sI, gS_sL, gS_sR, gN_sI, gN_sL, gN_sR] | simp (disch := omega) only [Nat.zero_le, true_and, and_true, and_self, Nat.reduceLeDiff, true_or, or_true, false_or, or_false, Nat.reduceEqDiff, false_and, and_false, if_false, if_true, reduceIte, not_true_eq_false, not_false_eq_true, true_imp_iff, false_imp_iff, List.map_cons, List.map_nil, List.sum_cons, List.sum_nil, jcI, jcL, jcR, Nat.reduceAdd, jrv_s, j1r_c, jap_n, jap_c, gI_sI, gL_sL, gI_sL, gL_sI, an_lt, an_le, an_eq, an_lt0, an_0le, an_0lt, an_le0, an_eq0, an_eq1, an_1lt, an_le1, an_1le, an_lt1, an_eqm, an_sub, an_sub1, an_div, an_rem, an_in, an_in0, an_in1, an_cl, an_cl0, an_cl1, nI_add, nI_1, an_1a, pk_mul, Nat.reduceMul, jz10, jz01, j00, j11, jb0, Classical.not_not, eq_self, an_ite, an_of, an_nm, nI_l, lN_add, lN_mul, lN_i, lj_2, lj_3, lj_4, lj_5, lj_6, lj_7, lj_8, lj_9, lj_10, lj_11, lj_12, lj_13, lj_14, lj_15, lj_16, lj_17, lj_18, lj_19, lj_20, lj_21, lj_22, lj_23, lj_24, lj_25, lj_26, lj_27, lj_28, lj_29, lj_30, lj_31, lj_32, lj_33, lj_34, lj_35, lj_36, lj_37, lj_38, lj_39, lj_40, lj_48, lj_50, lj_57, lj_59, lj_60, lj_63, lj_64, lj_65, lj_90, lj_96, lj_97, lj_99, lj_100, lj_101, lj_105, lj_112, lj_114, lj_116, lj_119, lj_122, lj_128, lj_200, lj_255, lj_256, lj_500, lj_777, lj_1000, hWξ.1, w] | (refine br_c (fun _ => ?_) (fun _ => ?_) <;> try (exfalso; omega)) | (refine br_d (fun _ => ?_) (fun _ => ?_) <;> try (exfalso; omega)) | refine And.intro ?_ ?_ | (refine Nat.ne_of_gt ?_; omega))
        all_goals exact kk
      by_cases better : told = none ∨ rMt T r k c0 < rMt T r k c
      · have kk := step (sI ν (o + 2) k (nI c)) c (hF.trans (jFr.sI (by simp))) (fun i hik => by rw [gI_sI, if_neg (fun z => hik z.2)]; exact hi i hik) ⟨⟨f1, f2, c, rfl, Nat.le_refl _⟩, fun y y1 y2 ⟨c1, y3, y4⟩ => by
          cases y3
          by_cases e : y = c
          · exact Or.inr ⟨by rw [e], by omega⟩
          · obtain ⟨c1, z1, z2⟩ := f4 y y1 y2 (by omega)
            rcases better with z | z
            · rw [z] at z1
              cases z1
            · have hne : told ≠ none := fun q => by rw [q] at z1; cases z1
              have := (hT hne).1.2 y y1 y2 ⟨c1, z1, z2⟩
              omega⟩ (by rw [gI_sI, if_pos ⟨rfl, rfl⟩]) _ rfl
        refine b70_30 ?_
        have hcmp : (nI (rMt T r k c) ≤ if told = none then -1 else nI (rMt T r k c0)) = False := eq_false (fun z => by
          rcases better with e | e
          · rw [if_pos e] at z
            have p0 := nI_pos' (show rMt T r k c < 2147483648 by omega)
            clear step ih fin h
            grind
          · by_cases q : told = none
            · rw [if_pos q] at z
              have p0 := nI_pos' (show rMt T r k c < 2147483648 by omega)
              clear step ih fin h
              grind
            · rw [if_neg q, an_le (by omega) (by omega)] at z
              omega)
        generalize (if told = none then (-1 : Int32) else nI (rMt T r k c0)) = v3 at *
        clear step ih fin h
        generalize rMt T r k c = y at *
        generalize jbi (tSd T k) = v1 at *
        generalize o + 4 + k = A at *
        repeat' (first | refine b70_16 ?_ | refine b70_17 ?_ | refine b70_92 ?_ | refine me _ _ ?_ | dsimp only [jb_e0, jb_ec, jb_n, jb_c, jx_op, j1i_c, j2i_c, j1l_c, j2l_c, jil_c, j1r_c, jri_c, jrii_c, jril_c, jrl_c, jrr_c, j2i'_c, jdup_i, jdup_r, jdup2_c, jdup2_l, jpo_c, jli, jll, jlr, jat_0, jat_s, jst, jst2, jkill_i, jkill_r, jkill_l, jkill_n, jnone, jgv_0, jgv_1, jgv_2, jgv_3, jrv_s, jput_0, jput_1, jput_2, jput_3, jpop_0, jpop_1, jcl_s, jc1, jc2, jvi, Nat.reduceAdd, jol_i, jol_l, jol_n, jap_n, jap_c, List.map_cons, List.map_nil, List.sum_cons, List.sum_nil, jcI, jcL, jcR, gI_sI, gI_sL, gI_sR, gL_sI, gL_sL, gL_sR, gR_sI, gR_sL, gR_sR, gS_sI, gS_sL, gS_sR, gN_sI, gN_sL, gN_sR] | simp (disch := omega) only [Nat.zero_le, true_and, and_true, and_self, Nat.reduceLeDiff, true_or, or_true, false_or, or_false, Nat.reduceEqDiff, false_and, and_false, if_false, if_true, reduceIte, not_true_eq_false, not_false_eq_true, true_imp_iff, false_imp_iff, List.map_cons, List.map_nil, List.sum_cons, List.sum_nil, jcI, jcL, jcR, Nat.reduceAdd, jrv_s, j1r_c, jap_n, jap_c, gI_sI, gL_sL, gI_sL, gL_sI, an_lt, an_le, an_eq, an_lt0, an_0le, an_0lt, an_le0, an_eq0, an_eq1, an_1lt, an_le1, an_1le, an_lt1, an_eqm, an_sub, an_sub1, an_div, an_rem, an_in, an_in0, an_in1, an_cl, an_cl0, an_cl1, nI_add, nI_1, an_1a, pk_mul, Nat.reduceMul, jz10, jz01, j00, j11, jb0, Classical.not_not, eq_self, an_ite, an_of, an_nm, nI_l, lN_add, lN_mul, lN_i, lj_2, lj_3, lj_4, lj_5, lj_6, lj_7, lj_8, lj_9, lj_10, lj_11, lj_12, lj_13, lj_14, lj_15, lj_16, lj_17, lj_18, lj_19, lj_20, lj_21, lj_22, lj_23, lj_24, lj_25, lj_26, lj_27, lj_28, lj_29, lj_30, lj_31, lj_32, lj_33, lj_34, lj_35, lj_36, lj_37, lj_38, lj_39, lj_40, lj_48, lj_50, lj_57, lj_59, lj_60, lj_63, lj_64, lj_65, lj_90, lj_96, lj_97, lj_99, lj_100, lj_101, lj_105, lj_112, lj_114, lj_116, lj_119, lj_122, lj_128, lj_200, lj_255, lj_256, lj_500, lj_777, lj_1000, hWν.1, jS0_48, w, rf, rA, sA, n2, eo, hcmp] | (refine br_c (fun _ => ?_) (fun _ => ?_) <;> try (exfalso; omega)) | (refine br_d (fun _ => ?_) (fun _ => ?_) <;> try (exfalso; omega)) | refine And.intro ?_ ?_ | (refine Nat.ne_of_gt ?_; omega))
        all_goals exact kk
      · have hne : told ≠ none := fun z => better (Or.inl z)
        obtain ⟨hT1, hT2⟩ := hT hne
        have kk := step ν c0 hF hi ⟨⟨hT1.1.1, hT1.1.2.1, by
          obtain ⟨c1, z1, z2⟩ := hT1.1.2.2
          have := f3 c1 z1
          exact ⟨c, rfl, by omega⟩⟩, fun y y1 y2 ⟨c1, y3, y4⟩ => by
          cases y3
          obtain ⟨c1, z1, z2⟩ := hT1.1.2.2
          have := f3 c1 z1
          by_cases e : y = c
          · have : ¬ rMt T r k c0 < rMt T r k c := fun z => better (Or.inr z)
            rw [e]
            omega
          · exact hT1.2 y y1 y2 (f4 y y1 y2 (by omega))⟩ hT2 _ rfl
        have hcmp : (nI (rMt T r k c) ≤ nI (rMt T r k c0)) = True := eq_true (by
          rw [an_le (by omega) (by omega)]
          have : ¬ rMt T r k c0 < rMt T r k c := fun z => better (Or.inr z)
          omega)
        rw [if_neg hne]
        refine b70_30 ?_
        clear step ih fin h
        generalize rMt T r k c = y at *
        generalize rMt T r k c0 = y0 at *
        generalize jbi (tSd T k) = v1 at *
        generalize o + 4 + k = A at *
        repeat' (first | refine b70_16 ?_ | refine b70_17 ?_ | refine b70_92 ?_ | refine me _ _ ?_ | dsimp only [jb_e0, jb_ec, jb_n, jb_c, jx_op, j1i_c, j2i_c, j1l_c, j2l_c, jil_c, j1r_c, jri_c, jrii_c, jril_c, jrl_c, jrr_c, j2i'_c, jdup_i, jdup_r, jdup2_c, jdup2_l, jpo_c, jli, jll, jlr, jat_0, jat_s, jst, jst2, jkill_i, jkill_r, jkill_l, jkill_n, jnone, jgv_0, jgv_1, jgv_2, jgv_3, jrv_s, jput_0, jput_1, jput_2, jput_3, jpop_0, jpop_1, jcl_s, jc1, jc2, jvi, Nat.reduceAdd, jol_i, jol_l, jol_n, jap_n, jap_c, List.map_cons, List.map_nil, List.sum_cons, List.sum_nil, jcI, jcL, jcR, gI_sI, gI_sL, gI_sR, gL_sI, gL_sL, gL_sR, gR_sI, gR_sL, gR_sR, gS_sI, gS_sL, gS_sR, gN_sI, gN_sL, gN_sR] | simp (disch := omega) only [Nat.zero_le, true_and, and_true, and_self, Nat.reduceLeDiff, true_or, or_true, false_or, or_false, Nat.reduceEqDiff, false_and, and_false, if_false, if_true, reduceIte, not_true_eq_false, not_false_eq_true, true_imp_iff, false_imp_iff, List.map_cons, List.map_nil, List.sum_cons, List.sum_nil, jcI, jcL, jcR, Nat.reduceAdd, jrv_s, j1r_c, jap_n, jap_c, gI_sI, gL_sL, gI_sL, gL_sI, an_lt, an_le, an_eq, an_lt0, an_0le, an_0lt, an_le0, an_eq0, an_eq1, an_1lt, an_le1, an_1le, an_lt1, an_eqm, an_sub, an_sub1, an_div, an_rem, an_in, an_in0, an_in1, an_cl, an_cl0, an_cl1, nI_add, nI_1, an_1a, pk_mul, Nat.reduceMul, jz10, jz01, j00, j11, jb0, Classical.not_not, eq_self, an_ite, an_of, an_nm, nI_l, lN_add, lN_mul, lN_i, lj_2, lj_3, lj_4, lj_5, lj_6, lj_7, lj_8, lj_9, lj_10, lj_11, lj_12, lj_13, lj_14, lj_15, lj_16, lj_17, lj_18, lj_19, lj_20, lj_21, lj_22, lj_23, lj_24, lj_25, lj_26, lj_27, lj_28, lj_29, lj_30, lj_31, lj_32, lj_33, lj_34, lj_35, lj_36, lj_37, lj_38, lj_39, lj_40, lj_48, lj_50, lj_57, lj_59, lj_60, lj_63, lj_64, lj_65, lj_90, lj_96, lj_97, lj_99, lj_100, lj_101, lj_105, lj_112, lj_114, lj_116, lj_119, lj_122, lj_128, lj_200, lj_255, lj_256, lj_500, lj_777, lj_1000, hWν.1, jS0_48, w, rf, rA, sA, n2, eo, hcmp] | (refine br_c (fun _ => ?_) (fun _ => ?_) <;> try (exfalso; omega)) | (refine br_d (fun _ => ?_) (fun _ => ?_) <;> try (exfalso; omega)) | refine And.intro ?_ ?_ | (refine Nat.ne_of_gt ?_; omega))
        all_goals exact kk
end JRH
