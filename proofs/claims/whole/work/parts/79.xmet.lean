/-! drawn: the class's sums -/
section JDY
variable {d L t : Nat} {μ : jMem} {Q : jQ} {T V : jT} {w v : Nat}
theorem sp_walkAll {ticks : Nat} (hW : jWd L t μ) (hK : jTok T) (hX : jTX T t μ) (hV : jVok V) (hVX : jVX V μ) (hw : w < wC V) (hv : v < wC V) (hticks : ticks ≤ 24) (h : ∀ ν, jFr [123, 126, 127] μ ν → (∀ i, i < 256 → gI ν 123 i = oI (gLd T V w v ticks (i / 64) (i % 64))) → Q none ν) : jC (d + 4) 28 [.ref 122, .ref t, .int (nI w), .int (nI v), .int (nI ticks)] μ Q := by
  have h12 := hV.1
  have key : ∀ (n i : Nat) (ν : jMem) (z6 z7 : Option Value), i + n = 256 → jFr [123, 126, 127] μ ν → (∀ j, j < i → gI ν 123 j = oI (gLd T V w v ticks (j / 64) (j % 64))) → jR (d + 4) 28 3 [some (.ref 122), some (.ref t), some (.int (nI w)), some (.int (nI v)), some (.int (nI ticks)), some (.int (nI i)), z6, z7] [] (0, 0) ν Q := by
    intro n
    induction n with
    | zero =>
      intro i ν z6 z7 hi hF hl
      obtain rfl : i = 256 := by omega
      have hWν := hF.wd hW
      have kk := h ν hF hl
      refine b28_3 ?_
      repeat' (first | refine b28_33 ?_ | refine b28_34 ?_ | refine b28_60 ?_ | refine b28_61 ?_ | refine b28_101 ?_ | refine b28_102 ?_ | refine b28_125 ?_ | refine b28_126 ?_ | refine b28_133 ?_ | dsimp only [jb_e0, jb_ec, jb_n, jb_c, jx_op, j1i_c, j2i_c, j1l_c, j2l_c, jil_c, j1r_c, jri_c, jrii_c, jril_c, jrl_c, jrr_c, j2i'_c, jdup_i, jdup_r, jdup2_c, jdup2_l, jpo_c, jli, jll, jlr, jat_0, jat_s, jst, jst2, jkill_i, jkill_r, jkill_l, jkill_n, jnone, jgv_0, jgv_1, jgv_2, jgv_3, jrv_s, jput_0, jput_1, jput_2, jput_3, jpop_0, jpop_1, jcl_s, jc1, jc2, jvi, Nat.reduceAdd, jol_i, jol_l, jol_n, jap_n, jap_c, List.map_cons, List.map_nil, List.sum_cons, List.sum_nil, jcI, jcL, jcR, gI_sI, gI_sL, gI_sR, gL_sI, gL_sL, gL_sR, gR_sI, gR_sL, gR_sR, gS_sI, gS_sL, gS_sR, gN_sI, gN_sL, gN_sR] | simp (disch := omega) only [Nat.zero_le, true_and, and_true, and_self, Nat.reduceLeDiff, true_or, or_true, false_or, or_false, Nat.reduceEqDiff, false_and, and_false, if_false, if_true, reduceIte, not_true_eq_false, not_false_eq_true, true_imp_iff, false_imp_iff, List.map_cons, List.map_nil, List.sum_cons, List.sum_nil, jcI, jcL, jcR, Nat.reduceAdd, jrv_s, j1r_c, jap_n, jap_c, gI_sI, gL_sL, gI_sL, gL_sI, an_lt, an_le, an_eq, an_lt0, an_0le, an_0lt, an_le0, an_eq0, an_eq1, an_1lt, an_le1, an_1le, an_lt1, an_eqm, an_sub, an_sub1, an_div, an_rem, an_in, an_in0, an_in1, an_cl, an_cl0, an_cl1, nI_add, nI_1, an_1a, pk_mul, Nat.reduceMul, jz10, jz01, j00, j11, jb0, Classical.not_not, eq_self, an_ite, an_of, an_nm, nI_l, lN_add, lN_mul, lN_i, lj_2, lj_3, lj_4, lj_5, lj_6, lj_7, lj_8, lj_9, lj_10, lj_11, lj_12, lj_13, lj_14, lj_15, lj_16, lj_17, lj_18, lj_19, lj_20, lj_21, lj_22, lj_23, lj_24, lj_25, lj_26, lj_27, lj_28, lj_29, lj_30, lj_31, lj_32, lj_33, lj_34, lj_35, lj_36, lj_37, lj_38, lj_39, lj_40, lj_48, lj_50, lj_57, lj_59, lj_60, lj_63, lj_64, lj_65, lj_90, lj_96, lj_97, lj_99, lj_100, lj_101, lj_105, lj_112, lj_114, lj_116, lj_119, lj_122, lj_128, lj_200, lj_255, lj_256, lj_500, lj_777, lj_1000, hWν.1] | (refine br_c (fun _ => ?_) (fun _ => ?_) <;> try (exfalso; omega)) | (refine br_d (fun _ => ?_) (fun _ => ?_) <;> try (exfalso; omega)) | refine And.intro ?_ ?_ | (refine Nat.ne_of_gt ?_; omega))
      all_goals exact kk
    | succ n ih =>
      intro i ν z6 z7 hi hF hl
      have hw1 : (if i / 64 / 2 = 0 then w else v) < wC V := by split <;> assumption
      have hv1 : (if i / 64 % 2 = 0 then w else v) < wC V := by split <;> assumption
      refine wall_step (hF.wd hW) hK (jTX_fr (by decide) hW hF hX) hV (jVX_fr (by decide) hF hVX) hw hv hw1 hv1 hticks (by omega) rfl rfl (fun ξ y6 y7 G => ?_)
      refine ih (i + 1) _ y6 y7 (by omega) ((hF.trans (G.mono (by simp))).trans (jFr.sI (by simp))) (fun j hj => ?_)
      rw [gI_sI]
      by_cases e : j = i
      · rw [if_pos ⟨rfl, e⟩, e]
      · rw [if_neg (fun z => e z.2), (G.1 123 (by simp)).1]
        exact hl j (by omega)
  have kk := fun z6 z7 => key 256 0 μ z6 z7 (by omega) jFr.rf (fun j hj => absurd hj (Nat.not_lt_zero _))
  refine e28 (b28_0 ?_)
  repeat' (first | refine b28_33 ?_ | refine b28_34 ?_ | refine b28_60 ?_ | refine b28_61 ?_ | refine b28_101 ?_ | refine b28_102 ?_ | refine b28_125 ?_ | refine b28_126 ?_ | refine b28_133 ?_ | dsimp only [jb_e0, jb_ec, jb_n, jb_c, jx_op, j1i_c, j2i_c, j1l_c, j2l_c, jil_c, j1r_c, jri_c, jrii_c, jril_c, jrl_c, jrr_c, j2i'_c, jdup_i, jdup_r, jdup2_c, jdup2_l, jpo_c, jli, jll, jlr, jat_0, jat_s, jst, jst2, jkill_i, jkill_r, jkill_l, jkill_n, jnone, jgv_0, jgv_1, jgv_2, jgv_3, jrv_s, jput_0, jput_1, jput_2, jput_3, jpop_0, jpop_1, jcl_s, jc1, jc2, jvi, Nat.reduceAdd, jol_i, jol_l, jol_n, jap_n, jap_c, List.map_cons, List.map_nil, List.sum_cons, List.sum_nil, jcI, jcL, jcR, gI_sI, gI_sL, gI_sR, gL_sI, gL_sL, gL_sR, gR_sI, gR_sL, gR_sR, gS_sI, gS_sL, gS_sR, gN_sI, gN_sL, gN_sR] | simp (disch := omega) only [Nat.zero_le, true_and, and_true, and_self, Nat.reduceLeDiff, true_or, or_true, false_or, or_false, Nat.reduceEqDiff, false_and, and_false, if_false, if_true, reduceIte, not_true_eq_false, not_false_eq_true, true_imp_iff, false_imp_iff, List.map_cons, List.map_nil, List.sum_cons, List.sum_nil, jcI, jcL, jcR, Nat.reduceAdd, jrv_s, j1r_c, jap_n, jap_c, gI_sI, gL_sL, gI_sL, gL_sI, an_lt, an_le, an_eq, an_lt0, an_0le, an_0lt, an_le0, an_eq0, an_eq1, an_1lt, an_le1, an_1le, an_lt1, an_eqm, an_sub, an_sub1, an_div, an_rem, an_in, an_in0, an_in1, an_cl, an_cl0, an_cl1, nI_add, nI_1, an_1a, pk_mul, Nat.reduceMul, jz10, jz01, j00, j11, jb0, Classical.not_not, eq_self, an_ite, an_of, an_nm, nI_l, lN_add, lN_mul, lN_i, lj_2, lj_3, lj_4, lj_5, lj_6, lj_7, lj_8, lj_9, lj_10, lj_11, lj_12, lj_13, lj_14, lj_15, lj_16, lj_17, lj_18, lj_19, lj_20, lj_21, lj_22, lj_23, lj_24, lj_25, lj_26, lj_27, lj_28, lj_29, lj_30, lj_31, lj_32, lj_33, lj_34, lj_35, lj_36, lj_37, lj_38, lj_39, lj_40, lj_48, lj_50, lj_57, lj_59, lj_60, lj_63, lj_64, lj_65, lj_90, lj_96, lj_97, lj_99, lj_100, lj_101, lj_105, lj_112, lj_114, lj_116, lj_119, lj_122, lj_128, lj_200, lj_255, lj_256, lj_500, lj_777, lj_1000] | (refine br_c (fun _ => ?_) (fun _ => ?_) <;> try (exfalso; omega)) | (refine br_d (fun _ => ?_) (fun _ => ?_) <;> try (exfalso; omega)) | refine And.intro ?_ ?_ | (refine Nat.ne_of_gt ?_; omega))
  all_goals exact kk _ _
/-- one share -/
def dSh (nw : Nat → Nat) (n i : Nat) : Nat := nw (i % 64) * dCh n (i / 64)
theorem once_step {ld : Nat → Nat → Option Nat} {nw th : Nat → Nat} {n i m : Nat} {z5 z6 z7 z8 : Option Value} (hW : jWd L t μ) (hn : n ≤ 16) (hi : i < 256) (hl : ∀ c k x, ld c k = some x → x < 64) (e1 : gI μ 123 i = oI (ld (i / 64) (i % 64))) (e2 : ∀ k, k < 64 → gL μ 124 k = lN (nw k)) (e3 : ∀ k, k < 64 → gL μ 125 k = lN (th k))
    (h0 : ld (i / 64) (i % 64) = none → ∀ z5 z6 z7 z8, jR d 32 5 [some (.ref 122), some (.int (nI n)), some (.long (lN (m + dSh nw n i))), none, some (.int (nI (i + 1))), z5, z6, z7, z8] [] (0, 0) μ Q)
    (h1 : ∀ x, ld (i / 64) (i % 64) = some x → ∀ z5 z6 z7 z8, jR d 32 5 [some (.ref 122), some (.int (nI n)), some (.long (lN m)), none, some (.int (nI (i + 1))), z5, z6, z7, z8] [] (0, 0) (sL μ 125 x (lN (th x + dSh nw n i))) Q) :
    jR d 32 5 [some (.ref 122), some (.int (nI n)), some (.long (lN m)), none, some (.int (nI i)), z5, z6, z7, z8] [] (0, 0) μ Q := by
  have a2 := e2 (i % 64) (by omega)
  have hc := dCh_le (c := i / 64) hn
  unfold dSh at h0 h1
  have fin : ∀ ch : Nat, ch ≤ 256 → dCh n (i / 64) = ch → ∀ z8, jR d 32 5 [some (.ref 122), some (.int (nI n)), some (.long (lN m)), none, some (.int (nI i)), z5, z6, z7, z8] [] (0, 0) μ Q → True := fun _ _ _ _ _ => trivial
  clear fin
  have lt : ∀ a b : Nat, a ≤ 16 → b ≤ 16 → a * b ≤ 256 := fun a b ha hb => Nat.le_trans (Nat.mul_le_mul ha hb) (by omega)
  have l1 := lt n n hn hn
  have l2 := lt n (16 - n) hn (by omega)
  have l3 := lt (16 - n) n (by omega) hn
  have l4 := lt (16 - n) (16 - n) (by omega) (by omega)
  unfold dCh at h0 h1
  generalize nw (i % 64) = s at a2 h0 h1
  refine b32_5 ?_
  cases hld : ld (i / 64) (i % 64) with
  | none =>
    have kk := h0 hld
    rw [hld] at e1
    have e1' : gI μ 123 i = -1 := e1
    by_cases c1 : i / 64 / 2 = 0 <;> by_cases c2 : i / 64 % 2 = 0
    all_goals simp only [c1, c2, if_true, if_false] at kk
    all_goals (repeat' (first | refine b32_31 ?_ | refine b32_35 ?_ | refine b32_46 ?_ | refine b32_50 ?_ | refine b32_111 ?_ | refine b32_116 ?_ | refine b32_125 ?_ | refine b32_160 ?_ | dsimp only [jb_e0, jb_ec, jb_n, jb_c, jx_op, j1i_c, j2i_c, j1l_c, j2l_c, jil_c, j1r_c, jri_c, jrii_c, jril_c, jrl_c, jrr_c, j2i'_c, jdup_i, jdup_r, jdup2_c, jdup2_l, jpo_c, jli, jll, jlr, jat_0, jat_s, jst, jst2, jkill_i, jkill_r, jkill_l, jkill_n, jnone, jgv_0, jgv_1, jgv_2, jgv_3, jrv_s, jput_0, jput_1, jput_2, jput_3, jpop_0, jpop_1, jcl_s, jc1, jc2, jvi, Nat.reduceAdd, jol_i, jol_l, jol_n, jap_n, jap_c, List.map_cons, List.map_nil, List.sum_cons, List.sum_nil, jcI, jcL, jcR, gI_sI, gI_sL, gI_sR, gL_sI, gL_sL, gL_sR, gR_sI, gR_sL, gR_sR, gS_sI, gS_sL, gS_sR, gN_sI, gN_sL, gN_sR] | simp (disch := omega) only [Nat.zero_le, true_and, and_true, and_self, Nat.reduceLeDiff, true_or, or_true, false_or, or_false, Nat.reduceEqDiff, false_and, and_false, if_false, if_true, reduceIte, not_true_eq_false, not_false_eq_true, true_imp_iff, false_imp_iff, List.map_cons, List.map_nil, List.sum_cons, List.sum_nil, jcI, jcL, jcR, Nat.reduceAdd, jrv_s, j1r_c, jap_n, jap_c, gI_sI, gL_sL, gI_sL, gL_sI, an_lt, an_le, an_eq, an_lt0, an_0le, an_0lt, an_le0, an_eq0, an_eq1, an_1lt, an_le1, an_1le, an_lt1, an_eqm, an_sub, an_sub1, an_div, an_rem, an_in, an_in0, an_in1, an_cl, an_cl0, an_cl1, nI_add, nI_1, an_1a, pk_mul, Nat.reduceMul, jz10, jz01, j00, j11, jb0, Classical.not_not, eq_self, an_ite, an_of, an_nm, nI_l, lN_add, lN_mul, lN_i, lj_2, lj_3, lj_4, lj_5, lj_6, lj_7, lj_8, lj_9, lj_10, lj_11, lj_12, lj_13, lj_14, lj_15, lj_16, lj_17, lj_18, lj_19, lj_20, lj_21, lj_22, lj_23, lj_24, lj_25, lj_26, lj_27, lj_28, lj_29, lj_30, lj_31, lj_32, lj_33, lj_34, lj_35, lj_36, lj_37, lj_38, lj_39, lj_40, lj_48, lj_50, lj_57, lj_59, lj_60, lj_63, lj_64, lj_65, lj_90, lj_96, lj_97, lj_99, lj_100, lj_101, lj_105, lj_112, lj_114, lj_116, lj_119, lj_122, lj_128, lj_200, lj_255, lj_256, lj_500, lj_777, lj_1000, hW.1, jr_122_0 hW, jr_122_1 hW, jr_122_2 hW, jr_122_3 hW, jr_122_4 hW, hW.1, jS0_122, jS0_123, jS0_124, jS0_125, jS0_126, jS0_127, a2, e1', jm1_lt, jnone, c1, c2] | (refine br_c (fun _ => ?_) (fun _ => ?_) <;> try (exfalso; omega)) | (refine br_d (fun _ => ?_) (fun _ => ?_) <;> try (exfalso; omega)) | refine And.intro ?_ ?_ | (refine Nat.ne_of_gt ?_; omega)))
    all_goals exact kk _ _ _ _
  | some x =>
    have kk := h1 x hld
    rw [hld] at e1
    have hx := hl _ _ _ hld
    have e1' : gI μ 123 i = nI x := e1
    have a3 := e3 x hx
    by_cases c1 : i / 64 / 2 = 0 <;> by_cases c2 : i / 64 % 2 = 0
    all_goals simp only [c1, c2, if_true, if_false] at kk
    all_goals (repeat' (first | refine b32_31 ?_ | refine b32_35 ?_ | refine b32_46 ?_ | refine b32_50 ?_ | refine b32_111 ?_ | refine b32_116 ?_ | refine b32_125 ?_ | refine b32_160 ?_ | dsimp only [jb_e0, jb_ec, jb_n, jb_c, jx_op, j1i_c, j2i_c, j1l_c, j2l_c, jil_c, j1r_c, jri_c, jrii_c, jril_c, jrl_c, jrr_c, j2i'_c, jdup_i, jdup_r, jdup2_c, jdup2_l, jpo_c, jli, jll, jlr, jat_0, jat_s, jst, jst2, jkill_i, jkill_r, jkill_l, jkill_n, jnone, jgv_0, jgv_1, jgv_2, jgv_3, jrv_s, jput_0, jput_1, jput_2, jput_3, jpop_0, jpop_1, jcl_s, jc1, jc2, jvi, Nat.reduceAdd, jol_i, jol_l, jol_n, jap_n, jap_c, List.map_cons, List.map_nil, List.sum_cons, List.sum_nil, jcI, jcL, jcR, gI_sI, gI_sL, gI_sR, gL_sI, gL_sL, gL_sR, gR_sI, gR_sL, gR_sR, gS_sI, gS_sL, gS_sR, gN_sI, gN_sL, gN_sR] | simp (disch := omega) only [Nat.zero_le, true_and, and_true, and_self, Nat.reduceLeDiff, true_or, or_true, false_or, or_false, Nat.reduceEqDiff, false_and, and_false, if_false, if_true, reduceIte, not_true_eq_false, not_false_eq_true, true_imp_iff, false_imp_iff, List.map_cons, List.map_nil, List.sum_cons, List.sum_nil, jcI, jcL, jcR, Nat.reduceAdd, jrv_s, j1r_c, jap_n, jap_c, gI_sI, gL_sL, gI_sL, gL_sI, an_lt, an_le, an_eq, an_lt0, an_0le, an_0lt, an_le0, an_eq0, an_eq1, an_1lt, an_le1, an_1le, an_lt1, an_eqm, an_sub, an_sub1, an_div, an_rem, an_in, an_in0, an_in1, an_cl, an_cl0, an_cl1, nI_add, nI_1, an_1a, pk_mul, Nat.reduceMul, jz10, jz01, j00, j11, jb0, Classical.not_not, eq_self, an_ite, an_of, an_nm, nI_l, lN_add, lN_mul, lN_i, lj_2, lj_3, lj_4, lj_5, lj_6, lj_7, lj_8, lj_9, lj_10, lj_11, lj_12, lj_13, lj_14, lj_15, lj_16, lj_17, lj_18, lj_19, lj_20, lj_21, lj_22, lj_23, lj_24, lj_25, lj_26, lj_27, lj_28, lj_29, lj_30, lj_31, lj_32, lj_33, lj_34, lj_35, lj_36, lj_37, lj_38, lj_39, lj_40, lj_48, lj_50, lj_57, lj_59, lj_60, lj_63, lj_64, lj_65, lj_90, lj_96, lj_97, lj_99, lj_100, lj_101, lj_105, lj_112, lj_114, lj_116, lj_119, lj_122, lj_128, lj_200, lj_255, lj_256, lj_500, lj_777, lj_1000, hW.1, jr_122_0 hW, jr_122_1 hW, jr_122_2 hW, jr_122_3 hW, jr_122_4 hW, hW.1, jS0_122, jS0_123, jS0_124, jS0_125, jS0_126, jS0_127, a2, a3, e1', jnone, c1, c2] | (refine br_c (fun _ => ?_) (fun _ => ?_) <;> try (exfalso; omega)) | (refine br_d (fun _ => ?_) (fun _ => ?_) <;> try (exfalso; omega)) | refine And.intro ?_ ?_ | (refine Nat.ne_of_gt ?_; omega)))
    all_goals exact kk _ _ _ _
theorem sp_drawOnce {ld : Nat → Nat → Option Nat} {nw : Nat → Nat} {n : Nat} (hW : jWd L t μ) (hn : n ≤ 16) (hl : ∀ c k x, ld c k = some x → x < 64) (e1 : ∀ i, i < 256 → gI μ 123 i = oI (ld (i / 64) (i % 64))) (e2 : ∀ k, k < 64 → gL μ 124 k = lN (nw k)) (e3 : ∀ k, k < 64 → gL μ 125 k = 0)
    (h : ∀ ν, jFr [124, 125] μ ν → (∀ k, k < 64 → gL ν 124 k = lN (dTh ld nw n k)) → (∀ k, k < 64 → gL ν 125 k = 0) → Q (some (.long (lN (dMt ld nw n)))) ν) : jC d 32 [.ref 122, .int (nI n)] μ Q := by
  -- what is drawn is laid down
  have copy : ∀ (m k : Nat) (ν : jMem) (z5 z6 z7 z8 : Option Value) (th : Nat → Nat) (mt : Nat), k + m = 64 → jFr [124, 125] μ ν → (∀ j, j < k → gL ν 124 j = lN (th j) ∧ gL ν 125 j = 0) → (∀ j, k ≤ j → j < 64 → gL ν 125 j = lN (th j)) → (∀ ν, jFr [124, 125] μ ν → (∀ k, k < 64 → gL ν 124 k = lN (th k)) → (∀ k, k < 64 → gL ν 125 k = 0) → Q (some (.long (lN mt))) ν) → jR d 32 125 [some (.ref 122), some (.int (nI n)), some (.long (lN mt)), none, some (.int (nI k)), z5, z6, z7, z8] [] (0, 0) ν Q := by
    intro m
    induction m with
    | zero =>
      intro k ν z5 z6 z7 z8 th mt hk hF h1 h2 hh
      obtain rfl : k = 64 := by omega
      have hWν := hF.wd hW
      have kk := hh ν hF (fun j hj => (h1 j hj).1) (fun j hj => (h1 j hj).2)
      refine b32_125 ?_
      repeat' (first | refine b32_31 ?_ | refine b32_35 ?_ | refine b32_46 ?_ | refine b32_50 ?_ | refine b32_111 ?_ | refine b32_116 ?_ | refine b32_122 ?_ | refine b32_160 ?_ | dsimp only [jb_e0, jb_ec, jb_n, jb_c, jx_op, j1i_c, j2i_c, j1l_c, j2l_c, jil_c, j1r_c, jri_c, jrii_c, jril_c, jrl_c, jrr_c, j2i'_c, jdup_i, jdup_r, jdup2_c, jdup2_l, jpo_c, jli, jll, jlr, jat_0, jat_s, jst, jst2, jkill_i, jkill_r, jkill_l, jkill_n, jnone, jgv_0, jgv_1, jgv_2, jgv_3, jrv_s, jput_0, jput_1, jput_2, jput_3, jpop_0, jpop_1, jcl_s, jc1, jc2, jvi, Nat.reduceAdd, jol_i, jol_l, jol_n, jap_n, jap_c, List.map_cons, List.map_nil, List.sum_cons, List.sum_nil, jcI, jcL, jcR, gI_sI, gI_sL, gI_sR, gL_sI, gL_sL, gL_sR, gR_sI, gR_sL, gR_sR, gS_sI, gS_sL, gS_sR, gN_sI, gN_sL, gN_sR] | simp (disch := omega) only [Nat.zero_le, true_and, and_true, and_self, Nat.reduceLeDiff, true_or, or_true, false_or, or_false, Nat.reduceEqDiff, false_and, and_false, if_false, if_true, reduceIte, not_true_eq_false, not_false_eq_true, true_imp_iff, false_imp_iff, List.map_cons, List.map_nil, List.sum_cons, List.sum_nil, jcI, jcL, jcR, Nat.reduceAdd, jrv_s, j1r_c, jap_n, jap_c, gI_sI, gL_sL, gI_sL, gL_sI, an_lt, an_le, an_eq, an_lt0, an_0le, an_0lt, an_le0, an_eq0, an_eq1, an_1lt, an_le1, an_1le, an_lt1, an_eqm, an_sub, an_sub1, an_div, an_rem, an_in, an_in0, an_in1, an_cl, an_cl0, an_cl1, nI_add, nI_1, an_1a, pk_mul, Nat.reduceMul, jz10, jz01, j00, j11, jb0, Classical.not_not, eq_self, an_ite, an_of, an_nm, nI_l, lN_add, lN_mul, lN_i, lj_2, lj_3, lj_4, lj_5, lj_6, lj_7, lj_8, lj_9, lj_10, lj_11, lj_12, lj_13, lj_14, lj_15, lj_16, lj_17, lj_18, lj_19, lj_20, lj_21, lj_22, lj_23, lj_24, lj_25, lj_26, lj_27, lj_28, lj_29, lj_30, lj_31, lj_32, lj_33, lj_34, lj_35, lj_36, lj_37, lj_38, lj_39, lj_40, lj_48, lj_50, lj_57, lj_59, lj_60, lj_63, lj_64, lj_65, lj_90, lj_96, lj_97, lj_99, lj_100, lj_101, lj_105, lj_112, lj_114, lj_116, lj_119, lj_122, lj_128, lj_200, lj_255, lj_256, lj_500, lj_777, lj_1000, hWν.1, jnone] | (refine br_c (fun _ => ?_) (fun _ => ?_) <;> try (exfalso; omega)) | (refine br_d (fun _ => ?_) (fun _ => ?_) <;> try (exfalso; omega)) | refine And.intro ?_ ?_ | (refine Nat.ne_of_gt ?_; omega))
      all_goals exact kk
    | succ m ih =>
      intro k ν z5 z6 z7 z8 th mt hk hF h1 h2 hh
      have hWν := hF.wd hW
      have a := h2 k (Nat.le_refl _) (by omega)
      have kk := ih (k + 1) (sL (sL ν 124 k (lN (th k))) 125 k 0) z5 z6 z7 z8 th mt (by omega) ((hF.trans (jFr.sL (by simp))).trans (jFr.sL (by simp))) (fun j hj => by
        by_cases e : j = k
        · subst e
          rw [gL_sL, if_neg (by omega), gL_sL, if_pos ⟨rfl, rfl⟩, gL_sL, if_pos ⟨rfl, rfl⟩]
          exact ⟨rfl, rfl⟩
        · rw [gL_sL, if_neg (by omega), gL_sL, if_neg (by omega), gL_sL, if_neg (by omega), gL_sL, if_neg (by omega)]
          exact h1 j (by omega)) (fun j hj hj2 => by
        rw [gL_sL, if_neg (by omega), gL_sL, if_neg (by omega)]
        exact h2 j (by omega) hj2) hh
      refine b32_125 ?_
      repeat' (first | refine b32_31 ?_ | refine b32_35 ?_ | refine b32_46 ?_ | refine b32_50 ?_ | refine b32_111 ?_ | refine b32_116 ?_ | refine b32_122 ?_ | refine b32_160 ?_ | dsimp only [jb_e0, jb_ec, jb_n, jb_c, jx_op, j1i_c, j2i_c, j1l_c, j2l_c, jil_c, j1r_c, jri_c, jrii_c, jril_c, jrl_c, jrr_c, j2i'_c, jdup_i, jdup_r, jdup2_c, jdup2_l, jpo_c, jli, jll, jlr, jat_0, jat_s, jst, jst2, jkill_i, jkill_r, jkill_l, jkill_n, jnone, jgv_0, jgv_1, jgv_2, jgv_3, jrv_s, jput_0, jput_1, jput_2, jput_3, jpop_0, jpop_1, jcl_s, jc1, jc2, jvi, Nat.reduceAdd, jol_i, jol_l, jol_n, jap_n, jap_c, List.map_cons, List.map_nil, List.sum_cons, List.sum_nil, jcI, jcL, jcR, gI_sI, gI_sL, gI_sR, gL_sI, gL_sL, gL_sR, gR_sI, gR_sL, gR_sR, gS_sI, gS_sL, gS_sR, gN_sI, gN_sL, gN_sR] | simp (disch := omega) only [Nat.zero_le, true_and, and_true, and_self, Nat.reduceLeDiff, true_or, or_true, false_or, or_false, Nat.reduceEqDiff, false_and, and_false, if_false, if_true, reduceIte, not_true_eq_false, not_false_eq_true, true_imp_iff, false_imp_iff, List.map_cons, List.map_nil, List.sum_cons, List.sum_nil, jcI, jcL, jcR, Nat.reduceAdd, jrv_s, j1r_c, jap_n, jap_c, gI_sI, gL_sL, gI_sL, gL_sI, an_lt, an_le, an_eq, an_lt0, an_0le, an_0lt, an_le0, an_eq0, an_eq1, an_1lt, an_le1, an_1le, an_lt1, an_eqm, an_sub, an_sub1, an_div, an_rem, an_in, an_in0, an_in1, an_cl, an_cl0, an_cl1, nI_add, nI_1, an_1a, pk_mul, Nat.reduceMul, jz10, jz01, j00, j11, jb0, Classical.not_not, eq_self, an_ite, an_of, an_nm, nI_l, lN_add, lN_mul, lN_i, lj_2, lj_3, lj_4, lj_5, lj_6, lj_7, lj_8, lj_9, lj_10, lj_11, lj_12, lj_13, lj_14, lj_15, lj_16, lj_17, lj_18, lj_19, lj_20, lj_21, lj_22, lj_23, lj_24, lj_25, lj_26, lj_27, lj_28, lj_29, lj_30, lj_31, lj_32, lj_33, lj_34, lj_35, lj_36, lj_37, lj_38, lj_39, lj_40, lj_48, lj_50, lj_57, lj_59, lj_60, lj_63, lj_64, lj_65, lj_90, lj_96, lj_97, lj_99, lj_100, lj_101, lj_105, lj_112, lj_114, lj_116, lj_119, lj_122, lj_128, lj_200, lj_255, lj_256, lj_500, lj_777, lj_1000, hWν.1, jr_122_0 hWν, jr_122_1 hWν, jr_122_2 hWν, jr_122_3 hWν, jr_122_4 hWν, hWν.1, jS0_122, jS0_123, jS0_124, jS0_125, jS0_126, jS0_127, a, jnone] | (refine br_c (fun _ => ?_) (fun _ => ?_) <;> try (exfalso; omega)) | (refine br_d (fun _ => ?_) (fun _ => ?_) <;> try (exfalso; omega)) | refine And.intro ?_ ?_ | (refine Nat.ne_of_gt ?_; omega))
      all_goals exact kk
  -- the draws one by one
  have key : ∀ (m i : Nat) (ν : jMem) (z5 z6 z7 z8 : Option Value), i + m = 256 → jFr [124, 125] μ ν → (∀ k, gL ν 124 k = gL μ 124 k) → (∀ j, j < 64 → gL ν 125 j = lN (jsum (fun i => if ld (i / 64) (i % 64) = some j then dSh nw n i else 0) i)) → jR d 32 5 [some (.ref 122), some (.int (nI n)), some (.long (lN (jsum (fun i => if ld (i / 64) (i % 64) = none then dSh nw n i else 0) i))), none, some (.int (nI i)), z5, z6, z7, z8] [] (0, 0) ν Q := by
    intro m
    induction m with
    | zero =>
      intro i ν z5 z6 z7 z8 hi hF hnw hth
      obtain rfl : i = 256 := by omega
      have hWν := hF.wd hW
      have eT : ∀ j, jsum (fun i => if ld (i / 64) (i % 64) = some j then dSh nw n i else 0) 256 = dTh ld nw n j := fun j => jsum_rows (fun c k => if ld c k = some j then nw k * dCh n c else 0) 64 (by omega) 4
      have eM : jsum (fun i => if ld (i / 64) (i % 64) = none then dSh nw n i else 0) 256 = dMt ld nw n := jsum_rows (fun c k => if ld c k = none then nw k * dCh n c else 0) 64 (by omega) 4
      have kk := copy 64 0 ν z5 z6 z7 z8 (dTh ld nw n) (dMt ld nw n) (by omega) hF (fun j hj => absurd hj (Nat.not_lt_zero _)) (fun j _ hj => by rw [hth j hj, eT]) h
      rw [eM]
      refine b32_5 ?_
      repeat' (first | refine b32_31 ?_ | refine b32_35 ?_ | refine b32_46 ?_ | refine b32_50 ?_ | refine b32_111 ?_ | refine b32_116 ?_ | refine b32_122 ?_ | refine b32_160 ?_ | dsimp only [jb_e0, jb_ec, jb_n, jb_c, jx_op, j1i_c, j2i_c, j1l_c, j2l_c, jil_c, j1r_c, jri_c, jrii_c, jril_c, jrl_c, jrr_c, j2i'_c, jdup_i, jdup_r, jdup2_c, jdup2_l, jpo_c, jli, jll, jlr, jat_0, jat_s, jst, jst2, jkill_i, jkill_r, jkill_l, jkill_n, jnone, jgv_0, jgv_1, jgv_2, jgv_3, jrv_s, jput_0, jput_1, jput_2, jput_3, jpop_0, jpop_1, jcl_s, jc1, jc2, jvi, Nat.reduceAdd, jol_i, jol_l, jol_n, jap_n, jap_c, List.map_cons, List.map_nil, List.sum_cons, List.sum_nil, jcI, jcL, jcR, gI_sI, gI_sL, gI_sR, gL_sI, gL_sL, gL_sR, gR_sI, gR_sL, gR_sR, gS_sI, gS_sL, gS_sR, gN_sI, gN_sL, gN_sR] | simp (disch := omega) only [Nat.zero_le, true_and, and_true, and_self, Nat.reduceLeDiff, true_or, or_true, false_or, or_false, Nat.reduceEqDiff, false_and, and_false, if_false, if_true, reduceIte, not_true_eq_false, not_false_eq_true, true_imp_iff, false_imp_iff, List.map_cons, List.map_nil, List.sum_cons, List.sum_nil, jcI, jcL, jcR, Nat.reduceAdd, jrv_s, j1r_c, jap_n, jap_c, gI_sI, gL_sL, gI_sL, gL_sI, an_lt, an_le, an_eq, an_lt0, an_0le, an_0lt, an_le0, an_eq0, an_eq1, an_1lt, an_le1, an_1le, an_lt1, an_eqm, an_sub, an_sub1, an_div, an_rem, an_in, an_in0, an_in1, an_cl, an_cl0, an_cl1, nI_add, nI_1, an_1a, pk_mul, Nat.reduceMul, jz10, jz01, j00, j11, jb0, Classical.not_not, eq_self, an_ite, an_of, an_nm, nI_l, lN_add, lN_mul, lN_i, lj_2, lj_3, lj_4, lj_5, lj_6, lj_7, lj_8, lj_9, lj_10, lj_11, lj_12, lj_13, lj_14, lj_15, lj_16, lj_17, lj_18, lj_19, lj_20, lj_21, lj_22, lj_23, lj_24, lj_25, lj_26, lj_27, lj_28, lj_29, lj_30, lj_31, lj_32, lj_33, lj_34, lj_35, lj_36, lj_37, lj_38, lj_39, lj_40, lj_48, lj_50, lj_57, lj_59, lj_60, lj_63, lj_64, lj_65, lj_90, lj_96, lj_97, lj_99, lj_100, lj_101, lj_105, lj_112, lj_114, lj_116, lj_119, lj_122, lj_128, lj_200, lj_255, lj_256, lj_500, lj_777, lj_1000, hWν.1, jnone] | (refine br_c (fun _ => ?_) (fun _ => ?_) <;> try (exfalso; omega)) | (refine br_d (fun _ => ?_) (fun _ => ?_) <;> try (exfalso; omega)) | refine And.intro ?_ ?_ | (refine Nat.ne_of_gt ?_; omega))
      all_goals exact kk
    | succ m ih =>
      intro i ν z5 z6 z7 z8 hi hF hnw hth
      have hWν := hF.wd hW
      refine once_step (ld := ld) (nw := nw) (th := fun j => jsum (fun i => if ld (i / 64) (i % 64) = some j then dSh nw n i else 0) i) hWν hn (by omega) hl (((hF.1 123 (by simp)).1 i).trans (e1 i (by omega))) (fun k hk => by rw [hnw]; exact e2 k hk) hth (fun hld y5 y6 y7 y8 => ?_) (fun x hld y5 y6 y7 y8 => ?_)
      · have kk := ih (i + 1) ν y5 y6 y7 y8 (by omega) hF hnw (fun j hj => by
          rw [hth j hj, jsum, if_neg (by rw [hld]; intro z; cases z), Nat.add_zero])
        rw [jsum, if_pos hld] at kk
        exact kk
      · have kk := ih (i + 1) (sL ν 125 x (lN (jsum (fun i => if ld (i / 64) (i % 64) = some x then dSh nw n i else 0) i + dSh nw n i))) y5 y6 y7 y8 (by omega) (hF.trans (jFr.sL (by simp))) (fun k => by rw [gL_sL, if_neg (by omega)]; exact hnw k) (fun j hj => by
          rw [gL_sL]
          by_cases e : j = x
          · subst e
            rw [if_pos ⟨rfl, rfl⟩, jsum, if_pos hld]
          · rw [if_neg (fun z => e z.2), hth j hj, jsum, if_neg (by rw [hld]; intro z; exact e (Option.some.inj z).symm), Nat.add_zero])
        rw [jsum, if_neg (by rw [hld]; intro z; cases z), Nat.add_zero] at kk
        exact kk
  have kk := key 256 0 μ none none none none (by omega) jFr.rf (fun _ => rfl) (fun j hj => by
    rw [e3 j hj]
    rfl)
  refine e32 (b32_0 ?_)
  repeat' (first | refine b32_31 ?_ | refine b32_35 ?_ | refine b32_46 ?_ | refine b32_50 ?_ | refine b32_111 ?_ | refine b32_116 ?_ | refine b32_122 ?_ | refine b32_125 ?_ | refine b32_160 ?_ | dsimp only [jb_e0, jb_ec, jb_n, jb_c, jx_op, j1i_c, j2i_c, j1l_c, j2l_c, jil_c, j1r_c, jri_c, jrii_c, jril_c, jrl_c, jrr_c, j2i'_c, jdup_i, jdup_r, jdup2_c, jdup2_l, jpo_c, jli, jll, jlr, jat_0, jat_s, jst, jst2, jkill_i, jkill_r, jkill_l, jkill_n, jnone, jgv_0, jgv_1, jgv_2, jgv_3, jrv_s, jput_0, jput_1, jput_2, jput_3, jpop_0, jpop_1, jcl_s, jc1, jc2, jvi, Nat.reduceAdd, jol_i, jol_l, jol_n, jap_n, jap_c, List.map_cons, List.map_nil, List.sum_cons, List.sum_nil, jcI, jcL, jcR, gI_sI, gI_sL, gI_sR, gL_sI, gL_sL, gL_sR, gR_sI, gR_sL, gR_sR, gS_sI, gS_sL, gS_sR, gN_sI, gN_sL, gN_sR] | simp (disch := omega) only [Nat.zero_le, true_and, and_true, and_self, Nat.reduceLeDiff, true_or, or_true, false_or, or_false, Nat.reduceEqDiff, false_and, and_false, if_false, if_true, reduceIte, not_true_eq_false, not_false_eq_true, true_imp_iff, false_imp_iff, List.map_cons, List.map_nil, List.sum_cons, List.sum_nil, jcI, jcL, jcR, Nat.reduceAdd, jrv_s, j1r_c, jap_n, jap_c, gI_sI, gL_sL, gI_sL, gL_sI, an_lt, an_le, an_eq, an_lt0, an_0le, an_0lt, an_le0, an_eq0, an_eq1, an_1lt, an_le1, an_1le, an_lt1, an_eqm, an_sub, an_sub1, an_div, an_rem, an_in, an_in0, an_in1, an_cl, an_cl0, an_cl1, nI_add, nI_1, an_1a, pk_mul, Nat.reduceMul, jz10, jz01, j00, j11, jb0, Classical.not_not, eq_self, an_ite, an_of, an_nm, nI_l, lN_add, lN_mul, lN_i, lj_2, lj_3, lj_4, lj_5, lj_6, lj_7, lj_8, lj_9, lj_10, lj_11, lj_12, lj_13, lj_14, lj_15, lj_16, lj_17, lj_18, lj_19, lj_20, lj_21, lj_22, lj_23, lj_24, lj_25, lj_26, lj_27, lj_28, lj_29, lj_30, lj_31, lj_32, lj_33, lj_34, lj_35, lj_36, lj_37, lj_38, lj_39, lj_40, lj_48, lj_50, lj_57, lj_59, lj_60, lj_63, lj_64, lj_65, lj_90, lj_96, lj_97, lj_99, lj_100, lj_101, lj_105, lj_112, lj_114, lj_116, lj_119, lj_122, lj_128, lj_200, lj_255, lj_256, lj_500, lj_777, lj_1000, jnone, al_0] | (refine br_c (fun _ => ?_) (fun _ => ?_) <;> try (exfalso; omega)) | (refine br_d (fun _ => ?_) (fun _ => ?_) <;> try (exfalso; omega)) | refine And.intro ?_ ?_ | (refine Nat.ne_of_gt ?_; omega))
  all_goals exact kk
end JDY
