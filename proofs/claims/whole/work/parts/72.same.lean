/-! same -/
section JSA
variable {d L t : Nat} {μ : jMem} {Q : jQ} {T : jT}
/-- a relation of places that nobody can tell apart -/
def sGd (T : jT) (S : Nat → Nat → Prop) : Prop := ∀ p q, S p q → (p < tP T ∧ q < tP T) ∧ tSi T p = tSi T q ∧ tD T p = tD T q ∧ ∀ k, k < tD T p → S (tLe T p k) (tLe T q k)
def tSm (T : jT) (a b : Nat) : Prop := ∃ S, sGd T S ∧ S a b
def sSi (T : jT) (p : Nat) : Nat := if p < tP T then tSi T p else 0
def sDg (T : jT) (p : Nat) : Nat := if p < tP T then tD T p else 0
def sAny (f : Nat → Bool) : Nat → Nat → Bool
  | 0, _ => false
  | n + 1, k => if f k = true then true else sAny f n (k + 1)
theorem sAny_iff {f : Nat → Bool} : ∀ n k, sAny f n k = true ↔ ∃ j, k ≤ j ∧ j < k + n ∧ f j = true
  | 0, k => ⟨fun h => (by cases h), fun h => (by obtain ⟨j, h1, h2, _⟩ := h; omega)⟩
  | n + 1, k => by
    unfold sAny
    by_cases c : f k = true
    · rw [if_pos c]
      exact ⟨fun _ => ⟨k, Nat.le_refl _, by omega, c⟩, fun _ => rfl⟩
    · rw [if_neg c, sAny_iff n (k + 1)]
      constructor
      · rintro ⟨j, h1, h2, h3⟩
        exact ⟨j, by omega, by omega, h3⟩
      · rintro ⟨j, h1, h2, h3⟩
        refine ⟨j, ?_, by omega, h3⟩
        rcases Nat.lt_or_ge k j with z | z
        · exact z
        · obtain rfl : j = k := by omega
          exact absurd h3 c
/-- whether lanes lead to places told apart -/
def sLA (T : jT) (ap : Nat → Bool) (p q : Nat) : Bool := sAny (fun k => ap (8 * tLe T p k + tLe T q k)) (sDg T p) 0
def sBs (T : jT) (p q : Nat) : Prop := sSi T p = sSi T q ∧ sDg T p = sDg T q
theorem sq_sight {p : Nat} (hW : jWd L t μ) (hK : jTok T) (hX : jTX T t μ) (hp : p < 8) (h : Q (some (.int (nI (sSi T p)))) μ) : jC (d + 1) 83 [.ref t, .int (nI p)] μ Q := by
  unfold sSi at h
  have h8 := hK.1.1
  by_cases c : p < tP T
  · rw [if_pos c] at h
    exact sp_sightOf hW hK hX c h
  · rw [if_neg c] at h
    have w0 := (jWs hW).1
    refine e83 (b83_0 ?_)
    repeat' (first | refine b83_17 ?_ | refine b83_18 ?_ | refine sp_isPlace hW hK hX ?_ | dsimp only [jb_e0, jb_ec, jb_n, jb_c, jx_op, j1i_c, j2i_c, j1l_c, j2l_c, jil_c, j1r_c, jri_c, jrii_c, jril_c, jrl_c, jrr_c, j2i'_c, jdup_i, jdup_r, jdup2_c, jdup2_l, jpo_c, jli, jll, jlr, jat_0, jat_s, jst, jst2, jkill_i, jkill_r, jkill_l, jkill_n, jnone, jgv_0, jgv_1, jgv_2, jgv_3, jrv_s, jput_0, jput_1, jput_2, jput_3, jpop_0, jpop_1, jcl_s, jc1, jc2, jvi, Nat.reduceAdd, jol_i, jol_l, jol_n, jap_n, jap_c, List.map_cons, List.map_nil, List.sum_cons, List.sum_nil, jcI, jcL, jcR, gI_sI, gI_sL, gI_sR, gL_sI, gL_sL, gL_sR, gR_sI, gR_sL, gR_sR, gS_sI, gS_sL, gS_sR, gN_sI, gN_sL, gN_sR] | simp (disch := omega) only [Nat.zero_le, true_and, and_true, and_self, Nat.reduceLeDiff, true_or, or_true, false_or, or_false, Nat.reduceEqDiff, false_and, and_false, if_false, if_true, reduceIte, not_true_eq_false, not_false_eq_true, true_imp_iff, false_imp_iff, List.map_cons, List.map_nil, List.sum_cons, List.sum_nil, jcI, jcL, jcR, Nat.reduceAdd, jrv_s, j1r_c, jap_n, jap_c, gI_sI, gL_sL, gI_sL, gL_sI, an_lt, an_le, an_eq, an_lt0, an_0le, an_0lt, an_le0, an_eq0, an_eq1, an_1lt, an_le1, an_1le, an_lt1, an_eqm, an_sub, an_sub1, an_div, an_rem, an_in, an_in0, an_in1, an_cl, an_cl0, an_cl1, nI_add, nI_1, an_1a, pk_mul, Nat.reduceMul, jz10, jz01, j00, j11, jb0, Classical.not_not, eq_self, an_ite, an_of, an_nm, nI_l, lN_add, lN_mul, lN_i, lj_2, lj_3, lj_4, lj_5, lj_6, lj_7, lj_8, lj_9, lj_10, lj_11, lj_12, lj_13, lj_14, lj_15, lj_16, lj_17, lj_18, lj_19, lj_20, lj_21, lj_22, lj_23, lj_24, lj_25, lj_26, lj_27, lj_28, lj_29, lj_30, lj_31, lj_32, lj_33, lj_34, lj_35, lj_36, lj_37, lj_38, lj_39, lj_40, lj_48, lj_50, lj_57, lj_59, lj_60, lj_63, lj_64, lj_65, lj_90, lj_96, lj_97, lj_99, lj_100, lj_101, lj_105, lj_112, lj_114, lj_116, lj_119, lj_122, lj_128, lj_200, lj_255, lj_256, lj_500, lj_777, lj_1000, hW.1, w0, c] | (refine br_c (fun _ => ?_) (fun _ => ?_) <;> try (exfalso; omega)) | (refine br_d (fun _ => ?_) (fun _ => ?_) <;> try (exfalso; omega)) | refine And.intro ?_ ?_ | (refine Nat.ne_of_gt ?_; omega))
    all_goals exact h
theorem sq_lanes {p : Nat} (hW : jWd L t μ) (hK : jTok T) (hX : jTX T t μ) (hp : p < 8) (h : Q (some (.int (nI (sDg T p)))) μ) : jC (d + 1) 86 [.ref t, .int (nI p)] μ Q := by
  unfold sDg at h
  have h8 := hK.1.1
  by_cases c : p < tP T
  · rw [if_pos c] at h
    exact sp_lanesAt hW hK hX c h
  · rw [if_neg c] at h
    have w0 := (jWs hW).1
    refine e86 (b86_0 ?_)
    repeat' (first | refine b86_17 ?_ | refine b86_18 ?_ | refine sp_isPlace hW hK hX ?_ | dsimp only [jb_e0, jb_ec, jb_n, jb_c, jx_op, j1i_c, j2i_c, j1l_c, j2l_c, jil_c, j1r_c, jri_c, jrii_c, jril_c, jrl_c, jrr_c, j2i'_c, jdup_i, jdup_r, jdup2_c, jdup2_l, jpo_c, jli, jll, jlr, jat_0, jat_s, jst, jst2, jkill_i, jkill_r, jkill_l, jkill_n, jnone, jgv_0, jgv_1, jgv_2, jgv_3, jrv_s, jput_0, jput_1, jput_2, jput_3, jpop_0, jpop_1, jcl_s, jc1, jc2, jvi, Nat.reduceAdd, jol_i, jol_l, jol_n, jap_n, jap_c, List.map_cons, List.map_nil, List.sum_cons, List.sum_nil, jcI, jcL, jcR, gI_sI, gI_sL, gI_sR, gL_sI, gL_sL, gL_sR, gR_sI, gR_sL, gR_sR, gS_sI, gS_sL, gS_sR, gN_sI, gN_sL, gN_sR] | simp (disch := omega) only [Nat.zero_le, true_and, and_true, and_self, Nat.reduceLeDiff, true_or, or_true, false_or, or_false, Nat.reduceEqDiff, false_and, and_false, if_false, if_true, reduceIte, not_true_eq_false, not_false_eq_true, true_imp_iff, false_imp_iff, List.map_cons, List.map_nil, List.sum_cons, List.sum_nil, jcI, jcL, jcR, Nat.reduceAdd, jrv_s, j1r_c, jap_n, jap_c, gI_sI, gL_sL, gI_sL, gL_sI, an_lt, an_le, an_eq, an_lt0, an_0le, an_0lt, an_le0, an_eq0, an_eq1, an_1lt, an_le1, an_1le, an_lt1, an_eqm, an_sub, an_sub1, an_div, an_rem, an_in, an_in0, an_in1, an_cl, an_cl0, an_cl1, nI_add, nI_1, an_1a, pk_mul, Nat.reduceMul, jz10, jz01, j00, j11, jb0, Classical.not_not, eq_self, an_ite, an_of, an_nm, nI_l, lN_add, lN_mul, lN_i, lj_2, lj_3, lj_4, lj_5, lj_6, lj_7, lj_8, lj_9, lj_10, lj_11, lj_12, lj_13, lj_14, lj_15, lj_16, lj_17, lj_18, lj_19, lj_20, lj_21, lj_22, lj_23, lj_24, lj_25, lj_26, lj_27, lj_28, lj_29, lj_30, lj_31, lj_32, lj_33, lj_34, lj_35, lj_36, lj_37, lj_38, lj_39, lj_40, lj_48, lj_50, lj_57, lj_59, lj_60, lj_63, lj_64, lj_65, lj_90, lj_96, lj_97, lj_99, lj_100, lj_101, lj_105, lj_112, lj_114, lj_116, lj_119, lj_122, lj_128, lj_200, lj_255, lj_256, lj_500, lj_777, lj_1000, hW.1, w0, c] | (refine br_c (fun _ => ?_) (fun _ => ?_) <;> try (exfalso; omega)) | (refine br_d (fun _ => ?_) (fun _ => ?_) <;> try (exfalso; omega)) | refine And.intro ?_ ?_ | (refine Nat.ne_of_gt ?_; omega))
    all_goals exact h
/-- a table of truths -/
def sTb (o : Nat) (f : Nat → Bool) (μ : jMem) : Prop := ∀ j, j < 64 → gI μ o j = jbi (f j)
theorem jbi_eq0 (b : Bool) : (jbi b = 0) = (b = false) := by cases b <;> simp [jbi]
theorem jbi_c (b : Bool) : jbi b = 0 ∨ jbi b = 1 := by cases b <;> simp [jbi]
theorem sp_isIn {o p q : Nat} {f : Nat → Bool} (hs : gS μ o = (103, 64)) (hf : sTb o f μ) (hp : p < 8) (hq : q < 8) (h : Q (some (.int (jbi (f (8 * p + q))))) μ) : jC d 20 [.ref o, .int (nI p), .int (nI q)] μ Q := by
  have e := hf (8 * p + q) (by omega)
  rw [Nat.mul_comm 8 p] at e h
  refine e20 (b20_0 ?_)
  cases hb : f (p * 8 + q) with
  | true =>
    rw [hb] at e h
    have e1 : gI μ o (p * 8 + q) = 1 := e
    repeat' (first | refine b20_41 ?_ | refine b20_42 ?_ | dsimp only [jb_e0, jb_ec, jb_n, jb_c, jx_op, j1i_c, j2i_c, j1l_c, j2l_c, jil_c, j1r_c, jri_c, jrii_c, jril_c, jrl_c, jrr_c, j2i'_c, jdup_i, jdup_r, jdup2_c, jdup2_l, jpo_c, jli, jll, jlr, jat_0, jat_s, jst, jst2, jkill_i, jkill_r, jkill_l, jkill_n, jnone, jgv_0, jgv_1, jgv_2, jgv_3, jrv_s, jput_0, jput_1, jput_2, jput_3, jpop_0, jpop_1, jcl_s, jc1, jc2, jvi, Nat.reduceAdd, jol_i, jol_l, jol_n, jap_n, jap_c, List.map_cons, List.map_nil, List.sum_cons, List.sum_nil, jcI, jcL, jcR, gI_sI, gI_sL, gI_sR, gL_sI, gL_sL, gL_sR, gR_sI, gR_sL, gR_sR, gS_sI, gS_sL, gS_sR, gN_sI, gN_sL, gN_sR] | simp (disch := omega) only [Nat.zero_le, true_and, and_true, and_self, Nat.reduceLeDiff, true_or, or_true, false_or, or_false, Nat.reduceEqDiff, false_and, and_false, if_false, if_true, reduceIte, not_true_eq_false, not_false_eq_true, true_imp_iff, false_imp_iff, List.map_cons, List.map_nil, List.sum_cons, List.sum_nil, jcI, jcL, jcR, Nat.reduceAdd, jrv_s, j1r_c, jap_n, jap_c, gI_sI, gL_sL, gI_sL, gL_sI, an_lt, an_le, an_eq, an_lt0, an_0le, an_0lt, an_le0, an_eq0, an_eq1, an_1lt, an_le1, an_1le, an_lt1, an_eqm, an_sub, an_sub1, an_div, an_rem, an_in, an_in0, an_in1, an_cl, an_cl0, an_cl1, nI_add, nI_1, an_1a, pk_mul, Nat.reduceMul, jz10, jz01, j00, j11, jb0, Classical.not_not, eq_self, an_ite, an_of, an_nm, nI_l, lN_add, lN_mul, lN_i, lj_2, lj_3, lj_4, lj_5, lj_6, lj_7, lj_8, lj_9, lj_10, lj_11, lj_12, lj_13, lj_14, lj_15, lj_16, lj_17, lj_18, lj_19, lj_20, lj_21, lj_22, lj_23, lj_24, lj_25, lj_26, lj_27, lj_28, lj_29, lj_30, lj_31, lj_32, lj_33, lj_34, lj_35, lj_36, lj_37, lj_38, lj_39, lj_40, lj_48, lj_50, lj_57, lj_59, lj_60, lj_63, lj_64, lj_65, lj_90, lj_96, lj_97, lj_99, lj_100, lj_101, lj_105, lj_112, lj_114, lj_116, lj_119, lj_122, lj_128, lj_200, lj_255, lj_256, lj_500, lj_777, lj_1000, hs, e1] | (refine br_c (fun _ => ?_) (fun _ => ?_) <;> try (exfalso; omega)) | (refine br_d (fun _ => ?_) (fun _ => ?_) <;> try (exfalso; omega)) | refine And.intro ?_ ?_ | (refine Nat.ne_of_gt ?_; omega))
    all_goals exact h
  | false =>
    rw [hb] at e h
    have e1 : gI μ o (p * 8 + q) = 0 := e
    repeat' (first | refine b20_41 ?_ | refine b20_42 ?_ | dsimp only [jb_e0, jb_ec, jb_n, jb_c, jx_op, j1i_c, j2i_c, j1l_c, j2l_c, jil_c, j1r_c, jri_c, jrii_c, jril_c, jrl_c, jrr_c, j2i'_c, jdup_i, jdup_r, jdup2_c, jdup2_l, jpo_c, jli, jll, jlr, jat_0, jat_s, jst, jst2, jkill_i, jkill_r, jkill_l, jkill_n, jnone, jgv_0, jgv_1, jgv_2, jgv_3, jrv_s, jput_0, jput_1, jput_2, jput_3, jpop_0, jpop_1, jcl_s, jc1, jc2, jvi, Nat.reduceAdd, jol_i, jol_l, jol_n, jap_n, jap_c, List.map_cons, List.map_nil, List.sum_cons, List.sum_nil, jcI, jcL, jcR, gI_sI, gI_sL, gI_sR, gL_sI, gL_sL, gL_sR, gR_sI, gR_sL, gR_sR, gS_sI, gS_sL, gS_sR, gN_sI, gN_sL, gN_sR] | simp (disch := omega) only [Nat.zero_le, true_and, and_true, and_self, Nat.reduceLeDiff, true_or, or_true, false_or, or_false, Nat.reduceEqDiff, false_and, and_false, if_false, if_true, reduceIte, not_true_eq_false, not_false_eq_true, true_imp_iff, false_imp_iff, List.map_cons, List.map_nil, List.sum_cons, List.sum_nil, jcI, jcL, jcR, Nat.reduceAdd, jrv_s, j1r_c, jap_n, jap_c, gI_sI, gL_sL, gI_sL, gL_sI, an_lt, an_le, an_eq, an_lt0, an_0le, an_0lt, an_le0, an_eq0, an_eq1, an_1lt, an_le1, an_1le, an_lt1, an_eqm, an_sub, an_sub1, an_div, an_rem, an_in, an_in0, an_in1, an_cl, an_cl0, an_cl1, nI_add, nI_1, an_1a, pk_mul, Nat.reduceMul, jz10, jz01, j00, j11, jb0, Classical.not_not, eq_self, an_ite, an_of, an_nm, nI_l, lN_add, lN_mul, lN_i, lj_2, lj_3, lj_4, lj_5, lj_6, lj_7, lj_8, lj_9, lj_10, lj_11, lj_12, lj_13, lj_14, lj_15, lj_16, lj_17, lj_18, lj_19, lj_20, lj_21, lj_22, lj_23, lj_24, lj_25, lj_26, lj_27, lj_28, lj_29, lj_30, lj_31, lj_32, lj_33, lj_34, lj_35, lj_36, lj_37, lj_38, lj_39, lj_40, lj_48, lj_50, lj_57, lj_59, lj_60, lj_63, lj_64, lj_65, lj_90, lj_96, lj_97, lj_99, lj_100, lj_101, lj_105, lj_112, lj_114, lj_116, lj_119, lj_122, lj_128, lj_200, lj_255, lj_256, lj_500, lj_777, lj_1000, hs, e1] | (refine br_c (fun _ => ?_) (fun _ => ?_) <;> try (exfalso; omega)) | (refine br_d (fun _ => ?_) (fun _ => ?_) <;> try (exfalso; omega)) | refine And.intro ?_ ?_ | (refine Nat.ne_of_gt ?_; omega))
    all_goals exact h
theorem sp_leadApart {p q : Nat} {ap : Nat → Bool} (hW : jWd L t μ) (hK : jTok T) (hX : jTX T t μ) (hA : sTb 44 ap μ) (hp : p < 8) (hq : q < 8) (hb : sBs T p q) (h : Q (some (.int (jbi (sLA T ap p q)))) μ) : jC (d + 2) 19 [.ref 43, .ref t, .int (nI p), .int (nI q)] μ Q := by
  have h8 := hK.1.1
  have w0 := (jWs hW).1
  have s44 : gS μ 44 = (103, 64) := (hW.1 44).trans (jS0_44 L)
  have d4 : sDg T p ≤ 4 := by
    unfold sDg
    split
    · next c => exact (hK.2.1 p c).2.2.2
    · omega
  have key : ∀ (n k : Nat), k + n = sDg T p → sLA T ap p q = sAny (fun k => ap (8 * tLe T p k + tLe T q k)) n k → jR (d + 2) 19 3 [some (.ref 43), some (.ref t), some (.int (nI p)), some (.int (nI q)), some (.int (nI k))] [] (0, 0) μ Q := by
    intro n
    induction n with
    | zero =>
      intro k hk he
      obtain rfl : k = sDg T p := by omega
      rw [he] at h
      refine b19_3 ?_
      repeat' (first | refine b19_39 ?_ | refine b19_45 ?_ | refine sq_lanes hW hK hX hp ?_ | dsimp only [jb_e0, jb_ec, jb_n, jb_c, jx_op, j1i_c, j2i_c, j1l_c, j2l_c, jil_c, j1r_c, jri_c, jrii_c, jril_c, jrl_c, jrr_c, j2i'_c, jdup_i, jdup_r, jdup2_c, jdup2_l, jpo_c, jli, jll, jlr, jat_0, jat_s, jst, jst2, jkill_i, jkill_r, jkill_l, jkill_n, jnone, jgv_0, jgv_1, jgv_2, jgv_3, jrv_s, jput_0, jput_1, jput_2, jput_3, jpop_0, jpop_1, jcl_s, jc1, jc2, jvi, Nat.reduceAdd, jol_i, jol_l, jol_n, jap_n, jap_c, List.map_cons, List.map_nil, List.sum_cons, List.sum_nil, jcI, jcL, jcR, gI_sI, gI_sL, gI_sR, gL_sI, gL_sL, gL_sR, gR_sI, gR_sL, gR_sR, gS_sI, gS_sL, gS_sR, gN_sI, gN_sL, gN_sR] | simp (disch := omega) only [Nat.zero_le, true_and, and_true, and_self, Nat.reduceLeDiff, true_or, or_true, false_or, or_false, Nat.reduceEqDiff, false_and, and_false, if_false, if_true, reduceIte, not_true_eq_false, not_false_eq_true, true_imp_iff, false_imp_iff, List.map_cons, List.map_nil, List.sum_cons, List.sum_nil, jcI, jcL, jcR, Nat.reduceAdd, jrv_s, j1r_c, jap_n, jap_c, gI_sI, gL_sL, gI_sL, gL_sI, an_lt, an_le, an_eq, an_lt0, an_0le, an_0lt, an_le0, an_eq0, an_eq1, an_1lt, an_le1, an_1le, an_lt1, an_eqm, an_sub, an_sub1, an_div, an_rem, an_in, an_in0, an_in1, an_cl, an_cl0, an_cl1, nI_add, nI_1, an_1a, pk_mul, Nat.reduceMul, jz10, jz01, j00, j11, jb0, Classical.not_not, eq_self, an_ite, an_of, an_nm, nI_l, lN_add, lN_mul, lN_i, lj_2, lj_3, lj_4, lj_5, lj_6, lj_7, lj_8, lj_9, lj_10, lj_11, lj_12, lj_13, lj_14, lj_15, lj_16, lj_17, lj_18, lj_19, lj_20, lj_21, lj_22, lj_23, lj_24, lj_25, lj_26, lj_27, lj_28, lj_29, lj_30, lj_31, lj_32, lj_33, lj_34, lj_35, lj_36, lj_37, lj_38, lj_39, lj_40, lj_48, lj_50, lj_57, lj_59, lj_60, lj_63, lj_64, lj_65, lj_90, lj_96, lj_97, lj_99, lj_100, lj_101, lj_105, lj_112, lj_114, lj_116, lj_119, lj_122, lj_128, lj_200, lj_255, lj_256, lj_500, lj_777, lj_1000, hW.1, w0] | (refine br_c (fun _ => ?_) (fun _ => ?_) <;> try (exfalso; omega)) | (refine br_d (fun _ => ?_) (fun _ => ?_) <;> try (exfalso; omega)) | refine And.intro ?_ ?_ | (refine Nat.ne_of_gt ?_; omega))
      all_goals exact h
    | succ n ih =>
      intro k hk he
      have hkd : k < sDg T p := by omega
      have hpP : p < tP T := by
        unfold sDg at hkd
        split at hkd
        · next c => exact c
        · omega
      have hqP : q < tP T := by
        rw [hb.2] at hkd
        unfold sDg at hkd
        split at hkd
        · next c => exact c
        · omega
      have kp : k < tD T p := by
        unfold sDg at hkd
        rw [if_pos hpP] at hkd
        exact hkd
      have kq : k < tD T q := by
        have := hb.2
        unfold sDg at this
        rw [if_pos hpP, if_pos hqP] at this
        omega
      have l1 := tLe_lt hK hpP kp
      have l2 := tLe_lt hK hqP kq
      have a1 : ∀ (d : Nat) (Q' : jQ), Q' (some (.int (nI (tLe T p k)))) μ → jC (d + 1) 88 [.ref t, .int (nI p), .int (nI k)] μ Q' := fun d Q' kk => sp_leadsTo hW hK hX hpP (by omega) (fun z => by omega) (fun _ => kk)
      have a2 : ∀ (d : Nat) (Q' : jQ), Q' (some (.int (nI (tLe T q k)))) μ → jC (d + 1) 88 [.ref t, .int (nI q), .int (nI k)] μ Q' := fun d Q' kk => sp_leadsTo hW hK hX hqP (by omega) (fun z => by omega) (fun _ => kk)
      have a3 : ∀ (d : Nat) (Q' : jQ), Q' (some (.int (jbi (ap (8 * tLe T p k + tLe T q k))))) μ → jC d 20 [.ref 44, .int (nI (tLe T p k)), .int (nI (tLe T q k))] μ Q' := fun d Q' kk => sp_isIn s44 hA (by omega) (by omega) kk
      rw [sAny] at he
      refine b19_3 ?_
      cases hc : ap (8 * tLe T p k + tLe T q k) with
      | true =>
        rw [if_pos hc] at he
        rw [he] at h
        have j1 : (jbi true = 0) = False := by decide
        repeat' (first | refine b19_39 ?_ | refine b19_45 ?_ | refine sq_lanes hW hK hX hp ?_ | refine a1 _ _ ?_ | refine a2 _ _ ?_ | refine a3 _ _ ?_ | dsimp only [jb_e0, jb_ec, jb_n, jb_c, jx_op, j1i_c, j2i_c, j1l_c, j2l_c, jil_c, j1r_c, jri_c, jrii_c, jril_c, jrl_c, jrr_c, j2i'_c, jdup_i, jdup_r, jdup2_c, jdup2_l, jpo_c, jli, jll, jlr, jat_0, jat_s, jst, jst2, jkill_i, jkill_r, jkill_l, jkill_n, jnone, jgv_0, jgv_1, jgv_2, jgv_3, jrv_s, jput_0, jput_1, jput_2, jput_3, jpop_0, jpop_1, jcl_s, jc1, jc2, jvi, Nat.reduceAdd, jol_i, jol_l, jol_n, jap_n, jap_c, List.map_cons, List.map_nil, List.sum_cons, List.sum_nil, jcI, jcL, jcR, gI_sI, gI_sL, gI_sR, gL_sI, gL_sL, gL_sR, gR_sI, gR_sL, gR_sR, gS_sI, gS_sL, gS_sR, gN_sI, gN_sL, gN_sR] | simp (disch := omega) only [Nat.zero_le, true_and, and_true, and_self, Nat.reduceLeDiff, true_or, or_true, false_or, or_false, Nat.reduceEqDiff, false_and, and_false, if_false, if_true, reduceIte, not_true_eq_false, not_false_eq_true, true_imp_iff, false_imp_iff, List.map_cons, List.map_nil, List.sum_cons, List.sum_nil, jcI, jcL, jcR, Nat.reduceAdd, jrv_s, j1r_c, jap_n, jap_c, gI_sI, gL_sL, gI_sL, gL_sI, an_lt, an_le, an_eq, an_lt0, an_0le, an_0lt, an_le0, an_eq0, an_eq1, an_1lt, an_le1, an_1le, an_lt1, an_eqm, an_sub, an_sub1, an_div, an_rem, an_in, an_in0, an_in1, an_cl, an_cl0, an_cl1, nI_add, nI_1, an_1a, pk_mul, Nat.reduceMul, jz10, jz01, j00, j11, jb0, Classical.not_not, eq_self, an_ite, an_of, an_nm, nI_l, lN_add, lN_mul, lN_i, lj_2, lj_3, lj_4, lj_5, lj_6, lj_7, lj_8, lj_9, lj_10, lj_11, lj_12, lj_13, lj_14, lj_15, lj_16, lj_17, lj_18, lj_19, lj_20, lj_21, lj_22, lj_23, lj_24, lj_25, lj_26, lj_27, lj_28, lj_29, lj_30, lj_31, lj_32, lj_33, lj_34, lj_35, lj_36, lj_37, lj_38, lj_39, lj_40, lj_48, lj_50, lj_57, lj_59, lj_60, lj_63, lj_64, lj_65, lj_90, lj_96, lj_97, lj_99, lj_100, lj_101, lj_105, lj_112, lj_114, lj_116, lj_119, lj_122, lj_128, lj_200, lj_255, lj_256, lj_500, lj_777, lj_1000, hW.1, w0, jr_43_0 hW, jr_43_1 hW, jr_43_2 hW, jr_43_4 hW, hW.1, jS0_43, jS0_44, jS0_45, jS0_46, jS0_47, hc, j1] | (refine br_c (fun _ => ?_) (fun _ => ?_) <;> try (exfalso; omega)) | (refine br_d (fun _ => ?_) (fun _ => ?_) <;> try (exfalso; omega)) | refine And.intro ?_ ?_ | (refine Nat.ne_of_gt ?_; omega))
        all_goals exact h
      | false =>
        rw [if_neg (by rw [hc]; decide)] at he
        have kk := ih (k + 1) (by omega) he
        have j1 : (jbi false = 0) = True := by decide
        repeat' (first | refine b19_39 ?_ | refine b19_45 ?_ | refine sq_lanes hW hK hX hp ?_ | refine a1 _ _ ?_ | refine a2 _ _ ?_ | refine a3 _ _ ?_ | dsimp only [jb_e0, jb_ec, jb_n, jb_c, jx_op, j1i_c, j2i_c, j1l_c, j2l_c, jil_c, j1r_c, jri_c, jrii_c, jril_c, jrl_c, jrr_c, j2i'_c, jdup_i, jdup_r, jdup2_c, jdup2_l, jpo_c, jli, jll, jlr, jat_0, jat_s, jst, jst2, jkill_i, jkill_r, jkill_l, jkill_n, jnone, jgv_0, jgv_1, jgv_2, jgv_3, jrv_s, jput_0, jput_1, jput_2, jput_3, jpop_0, jpop_1, jcl_s, jc1, jc2, jvi, Nat.reduceAdd, jol_i, jol_l, jol_n, jap_n, jap_c, List.map_cons, List.map_nil, List.sum_cons, List.sum_nil, jcI, jcL, jcR, gI_sI, gI_sL, gI_sR, gL_sI, gL_sL, gL_sR, gR_sI, gR_sL, gR_sR, gS_sI, gS_sL, gS_sR, gN_sI, gN_sL, gN_sR] | simp (disch := omega) only [Nat.zero_le, true_and, and_true, and_self, Nat.reduceLeDiff, true_or, or_true, false_or, or_false, Nat.reduceEqDiff, false_and, and_false, if_false, if_true, reduceIte, not_true_eq_false, not_false_eq_true, true_imp_iff, false_imp_iff, List.map_cons, List.map_nil, List.sum_cons, List.sum_nil, jcI, jcL, jcR, Nat.reduceAdd, jrv_s, j1r_c, jap_n, jap_c, gI_sI, gL_sL, gI_sL, gL_sI, an_lt, an_le, an_eq, an_lt0, an_0le, an_0lt, an_le0, an_eq0, an_eq1, an_1lt, an_le1, an_1le, an_lt1, an_eqm, an_sub, an_sub1, an_div, an_rem, an_in, an_in0, an_in1, an_cl, an_cl0, an_cl1, nI_add, nI_1, an_1a, pk_mul, Nat.reduceMul, jz10, jz01, j00, j11, jb0, Classical.not_not, eq_self, an_ite, an_of, an_nm, nI_l, lN_add, lN_mul, lN_i, lj_2, lj_3, lj_4, lj_5, lj_6, lj_7, lj_8, lj_9, lj_10, lj_11, lj_12, lj_13, lj_14, lj_15, lj_16, lj_17, lj_18, lj_19, lj_20, lj_21, lj_22, lj_23, lj_24, lj_25, lj_26, lj_27, lj_28, lj_29, lj_30, lj_31, lj_32, lj_33, lj_34, lj_35, lj_36, lj_37, lj_38, lj_39, lj_40, lj_48, lj_50, lj_57, lj_59, lj_60, lj_63, lj_64, lj_65, lj_90, lj_96, lj_97, lj_99, lj_100, lj_101, lj_105, lj_112, lj_114, lj_116, lj_119, lj_122, lj_128, lj_200, lj_255, lj_256, lj_500, lj_777, lj_1000, hW.1, w0, jr_43_0 hW, jr_43_1 hW, jr_43_2 hW, jr_43_4 hW, hW.1, jS0_43, jS0_44, jS0_45, jS0_46, jS0_47, hc, j1] | (refine br_c (fun _ => ?_) (fun _ => ?_) <;> try (exfalso; omega)) | (refine br_d (fun _ => ?_) (fun _ => ?_) <;> try (exfalso; omega)) | refine And.intro ?_ ?_ | (refine Nat.ne_of_gt ?_; omega))
        all_goals exact kk
  have kk := key (sDg T p) 0 (by omega) rfl
  refine e19 (b19_0 ?_)
  repeat' (first | refine b19_39 ?_ | refine b19_45 ?_ | dsimp only [jb_e0, jb_ec, jb_n, jb_c, jx_op, j1i_c, j2i_c, j1l_c, j2l_c, jil_c, j1r_c, jri_c, jrii_c, jril_c, jrl_c, jrr_c, j2i'_c, jdup_i, jdup_r, jdup2_c, jdup2_l, jpo_c, jli, jll, jlr, jat_0, jat_s, jst, jst2, jkill_i, jkill_r, jkill_l, jkill_n, jnone, jgv_0, jgv_1, jgv_2, jgv_3, jrv_s, jput_0, jput_1, jput_2, jput_3, jpop_0, jpop_1, jcl_s, jc1, jc2, jvi, Nat.reduceAdd, jol_i, jol_l, jol_n, jap_n, jap_c, List.map_cons, List.map_nil, List.sum_cons, List.sum_nil, jcI, jcL, jcR, gI_sI, gI_sL, gI_sR, gL_sI, gL_sL, gL_sR, gR_sI, gR_sL, gR_sR, gS_sI, gS_sL, gS_sR, gN_sI, gN_sL, gN_sR] | simp (disch := omega) only [Nat.zero_le, true_and, and_true, and_self, Nat.reduceLeDiff, true_or, or_true, false_or, or_false, Nat.reduceEqDiff, false_and, and_false, if_false, if_true, reduceIte, not_true_eq_false, not_false_eq_true, true_imp_iff, false_imp_iff, List.map_cons, List.map_nil, List.sum_cons, List.sum_nil, jcI, jcL, jcR, Nat.reduceAdd, jrv_s, j1r_c, jap_n, jap_c, gI_sI, gL_sL, gI_sL, gL_sI, an_lt, an_le, an_eq, an_lt0, an_0le, an_0lt, an_le0, an_eq0, an_eq1, an_1lt, an_le1, an_1le, an_lt1, an_eqm, an_sub, an_sub1, an_div, an_rem, an_in, an_in0, an_in1, an_cl, an_cl0, an_cl1, nI_add, nI_1, an_1a, pk_mul, Nat.reduceMul, jz10, jz01, j00, j11, jb0, Classical.not_not, eq_self, an_ite, an_of, an_nm, nI_l, lN_add, lN_mul, lN_i, lj_2, lj_3, lj_4, lj_5, lj_6, lj_7, lj_8, lj_9, lj_10, lj_11, lj_12, lj_13, lj_14, lj_15, lj_16, lj_17, lj_18, lj_19, lj_20, lj_21, lj_22, lj_23, lj_24, lj_25, lj_26, lj_27, lj_28, lj_29, lj_30, lj_31, lj_32, lj_33, lj_34, lj_35, lj_36, lj_37, lj_38, lj_39, lj_40, lj_48, lj_50, lj_57, lj_59, lj_60, lj_63, lj_64, lj_65, lj_90, lj_96, lj_97, lj_99, lj_100, lj_101, lj_105, lj_112, lj_114, lj_116, lj_119, lj_122, lj_128, lj_200, lj_255, lj_256, lj_500, lj_777, lj_1000] | (refine br_c (fun _ => ?_) (fun _ => ?_) <;> try (exfalso; omega)) | (refine br_d (fun _ => ?_) (fun _ => ?_) <;> try (exfalso; omega)) | refine And.intro ?_ ?_ | (refine Nat.ne_of_gt ?_; omega))
  all_goals exact kk
/-! counting -/
def sCt (f : Nat → Bool) (n : Nat) : Nat := jsum (fun i => if f i = true then 1 else 0) n
theorem sCt_le (f : Nat → Bool) (n : Nat) : sCt f n ≤ n := by
  have := jsum_le (f := fun i => if f i = true then 1 else 0) (c := 1) n (fun i _ => by show (if f i = true then 1 else 0) ≤ 1; split <;> omega)
  unfold sCt
  omega
theorem sCt_up {f g : Nat → Bool} {j : Nat} (hj : f j = false) (hg : ∀ i, g i = if i = j then true else f i) : ∀ n, sCt g n = sCt f n + if j < n then 1 else 0
  | 0 => rfl
  | n + 1 => by
    have ih := sCt_up hj hg n
    have e1 : sCt g (n + 1) = sCt g n + (if g n = true then 1 else 0) := rfl
    have e2 : sCt f (n + 1) = sCt f n + (if f n = true then 1 else 0) := rfl
    by_cases e : n = j
    · have gn : g n = true := by rw [hg, if_pos e]
      have fn : f n = false := by rw [e]; exact hj
      rw [gn, if_pos rfl] at e1
      rw [fn, if_neg (by decide)] at e2
      rw [if_neg (show ¬ j < n by omega)] at ih
      rw [if_pos (show j < n + 1 by omega)]
      omega
    · have gn : g n = f n := by rw [hg, if_neg e]
      rw [gn] at e1
      by_cases c : j < n
      · rw [if_pos c] at ih
        rw [if_pos (show j < n + 1 by omega)]
        omega
      · rw [if_neg c] at ih
        rw [if_neg (show ¬ j < n + 1 by omega)]
        omega
theorem sCt_all {f : Nat → Bool} : ∀ n, sCt f n = n → ∀ i, i < n → f i = true
  | 0, _, i, hi => absurd hi (Nat.not_lt_zero _)
  | n + 1, h, i, hi => by
    have h1 := sCt_le f n
    unfold sCt at h h1
    rw [jsum] at h
    by_cases c : f n = true
    · rw [if_pos c] at h
      by_cases e : i = n
      · rw [e]; exact c
      · exact sCt_all n (by unfold sCt; omega) i (by omega)
    · rw [if_neg c] at h
      omega
/-! the class's rounds -/
def sIv (T : jT) (ap : Nat → Bool) : Prop := (∀ S p q, sGd T S → S p q → ap (8 * p + q) = false) ∧ ∀ j, j < 64 → ap j = false → sBs T (j / 8) (j % 8)
/-- of a round from a0 on, until j -/
def sRd (T : jT) (a0 ap : Nat → Bool) (more : Bool) (j : Nat) : Prop := sIv T ap ∧ (more = false → (∀ i, i < 64 → ap i = a0 i) ∧ ∀ i, i < j → a0 i = false → sLA T a0 (i / 8) (i % 8) = false) ∧ (more = true → sCt a0 64 < sCt ap 64) ∧ sCt a0 64 ≤ sCt ap 64
theorem sLA_congr {f g : Nat → Bool} (hK : jTok T) {p q : Nat} (hb : sBs T p q) (h : ∀ i, i < 64 → f i = g i) : sLA T f p q = sLA T g p q := by
  have e : ∀ x y : Bool, (x = true ↔ y = true) → x = y := by decide
  apply e
  unfold sLA
  rw [sAny_iff, sAny_iff]
  have h8 := hK.1.1
  have lt : ∀ j, j < 0 + sDg T p → 8 * tLe T p j + tLe T q j < 64 := fun j hj => by
    have hpP : p < tP T := by
      unfold sDg at hj
      split at hj
      · next c => exact c
      · omega
    have hqP : q < tP T := by
      rw [hb.2] at hj
      unfold sDg at hj
      split at hj
      · next c => exact c
      · omega
    have kp : j < tD T p := by
      unfold sDg at hj
      rw [if_pos hpP] at hj
      omega
    have kq : j < tD T q := by
      have := hb.2
      unfold sDg at this
      rw [if_pos hpP, if_pos hqP] at this
      omega
    have l1 := tLe_lt hK hpP kp
    have l2 := tLe_lt hK hqP kq
    omega
  constructor
  · rintro ⟨j, h1, h2, h3⟩
    exact ⟨j, h1, h2, by rw [← h _ (lt j h2)]; exact h3⟩
  · rintro ⟨j, h1, h2, h3⟩
    exact ⟨j, h1, h2, by rw [h _ (lt j h2)]; exact h3⟩
theorem sRd_put (hK : jTok T) {a0 ap : Nat → Bool} {more : Bool} {j : Nat} (hj : j < 64) (h : sRd T a0 ap more j) (h0 : ap j = false) (hl : sLA T ap (j / 8) (j % 8) = true) : sRd T a0 (fun i => if i = j then true else ap i) true (j + 1) := by
  obtain ⟨⟨i1, i2⟩, h2, h3, h4⟩ := h
  have hc := sCt_up (f := ap) (g := fun i => if i = j then true else ap i) h0 (fun i => rfl) 64
  rw [if_pos hj] at hc
  refine ⟨⟨fun S p q hS hpq => ?_, fun i hi hf => ?_⟩, fun z => (by cases z), fun _ => by omega, by omega⟩
  · have hS2 := hS p q hpq
    have h8 := hK.1.1
    by_cases e : 8 * p + q = j
    · exfalso
      have ep : j / 8 = p := by omega
      have eq : j % 8 = q := by omega
      rw [ep, eq] at hl
      unfold sLA at hl
      rw [sAny_iff] at hl
      obtain ⟨k, -, k2, k3⟩ := hl
      unfold sDg at k2
      rw [if_pos hS2.1.1] at k2
      have := i1 S _ _ hS (hS2.2.2.2 k (by omega))
      rw [this] at k3
      cases k3
    · show (if 8 * p + q = j then true else ap (8 * p + q)) = false
      rw [if_neg e]
      exact i1 S p q hS hpq
  · have hf : (if i = j then true else ap i) = false := hf
    by_cases e : i = j
    · rw [if_pos e] at hf
      cases hf
    · rw [if_neg e] at hf
      exact i2 i hi hf
theorem sRd_stay (hK : jTok T) {a0 ap : Nat → Bool} {more : Bool} {j : Nat} (hj : j < 64) (h : sRd T a0 ap more j) (h0 : ap j = true ∨ sLA T ap (j / 8) (j % 8) = false) : sRd T a0 ap more (j + 1) := by
  obtain ⟨hi, h2, h3, h4⟩ := h
  refine ⟨hi, fun z => ⟨(h2 z).1, fun i hi2 hf => ?_⟩, h3, h4⟩
  by_cases e : i = j
  · subst e
    rcases h0 with q | q
    · rw [(h2 z).1 i hj] at q
      rw [q] at hf
      cases hf
    · rw [← sLA_congr hK (hi.2 i hj (by rw [(h2 z).1 i hj]; exact hf)) (h2 z).1]
      exact q
  · exact (h2 z).2 i (by omega) hf
theorem jTX_tb {v : Int32} {j : Nat} (ht : t = 12 ∨ t = 23) (hX : jTX T t μ) : jTX T t (sI μ 44 j v) := jTX_of2 (fun a k h1 h2 => by rw [gI_sI, if_neg (by omega)]) hX
theorem sp_more {a0 : Nat → Bool} (hW : jWd L t μ) (hK : jTok T) (hX : jTX T t μ) (hA0 : sTb 44 a0 μ) (hI : sIv T a0) (h : ∀ ν ap more, jFr [44] μ ν → sTb 44 ap ν → sRd T a0 ap more 64 → Q (some (.int (jbi more))) ν) : jC (d + 3) 18 [.ref 43, .ref t] μ Q := by
  have key : ∀ (n j : Nat) (ν : jMem) (ap : Nat → Bool) (more : Bool), j + n = 64 → jFr [44] μ ν → sTb 44 ap ν → sRd T a0 ap more j → jR (d + 3) 18 4 [some (.ref 43), some (.ref t), some (.int (jbi more)), some (.int (nI j))] [] (0, 0) ν Q := by
    intro n
    induction n with
    | zero =>
      intro j ν ap more hj hF hA hR
      obtain rfl : j = 64 := by omega
      have hWν := hF.wd hW
      have kk := h ν ap more hF hA hR
      have jc := jbi_c more
      refine b18_4 ?_
      repeat' (first | refine b18_44 ?_ | refine b18_50 ?_ | dsimp only [jb_e0, jb_ec, jb_n, jb_c, jx_op, j1i_c, j2i_c, j1l_c, j2l_c, jil_c, j1r_c, jri_c, jrii_c, jril_c, jrl_c, jrr_c, j2i'_c, jdup_i, jdup_r, jdup2_c, jdup2_l, jpo_c, jli, jll, jlr, jat_0, jat_s, jst, jst2, jkill_i, jkill_r, jkill_l, jkill_n, jnone, jgv_0, jgv_1, jgv_2, jgv_3, jrv_s, jput_0, jput_1, jput_2, jput_3, jpop_0, jpop_1, jcl_s, jc1, jc2, jvi, Nat.reduceAdd, jol_i, jol_l, jol_n, jap_n, jap_c, List.map_cons, List.map_nil, List.sum_cons, List.sum_nil, jcI, jcL, jcR, gI_sI, gI_sL, gI_sR, gL_sI, gL_sL, gL_sR, gR_sI, gR_sL, gR_sR, gS_sI, gS_sL, gS_sR, gN_sI, gN_sL, gN_sR] | simp (disch := omega) only [Nat.zero_le, true_and, and_true, and_self, Nat.reduceLeDiff, true_or, or_true, false_or, or_false, Nat.reduceEqDiff, false_and, and_false, if_false, if_true, reduceIte, not_true_eq_false, not_false_eq_true, true_imp_iff, false_imp_iff, List.map_cons, List.map_nil, List.sum_cons, List.sum_nil, jcI, jcL, jcR, Nat.reduceAdd, jrv_s, j1r_c, jap_n, jap_c, gI_sI, gL_sL, gI_sL, gL_sI, an_lt, an_le, an_eq, an_lt0, an_0le, an_0lt, an_le0, an_eq0, an_eq1, an_1lt, an_le1, an_1le, an_lt1, an_eqm, an_sub, an_sub1, an_div, an_rem, an_in, an_in0, an_in1, an_cl, an_cl0, an_cl1, nI_add, nI_1, an_1a, pk_mul, Nat.reduceMul, jz10, jz01, j00, j11, jb0, Classical.not_not, eq_self, an_ite, an_of, an_nm, nI_l, lN_add, lN_mul, lN_i, lj_2, lj_3, lj_4, lj_5, lj_6, lj_7, lj_8, lj_9, lj_10, lj_11, lj_12, lj_13, lj_14, lj_15, lj_16, lj_17, lj_18, lj_19, lj_20, lj_21, lj_22, lj_23, lj_24, lj_25, lj_26, lj_27, lj_28, lj_29, lj_30, lj_31, lj_32, lj_33, lj_34, lj_35, lj_36, lj_37, lj_38, lj_39, lj_40, lj_48, lj_50, lj_57, lj_59, lj_60, lj_63, lj_64, lj_65, lj_90, lj_96, lj_97, lj_99, lj_100, lj_101, lj_105, lj_112, lj_114, lj_116, lj_119, lj_122, lj_128, lj_200, lj_255, lj_256, lj_500, lj_777, lj_1000, hWν.1, jc] | (refine br_c (fun _ => ?_) (fun _ => ?_) <;> try (exfalso; omega)) | (refine br_d (fun _ => ?_) (fun _ => ?_) <;> try (exfalso; omega)) | refine And.intro ?_ ?_ | (refine Nat.ne_of_gt ?_; omega))
      all_goals exact kk
    | succ n ih =>
      intro j ν ap more hj hF hA hR
      have hWν := hF.wd hW
      have w0 := (jWs hWν).1
      have hXν := jTX_fr (by decide) hW hF hX
      have hj64 : j < 64 := by omega
      have e := hA j hj64
      refine b18_4 ?_
      cases hc : ap j with
      | true =>
        rw [hc] at e
        have e1 : gI ν 44 j = 1 := e
        have kk := ih (j + 1) ν ap more (by omega) hF hA (sRd_stay hK hj64 hR (Or.inl hc))
        repeat' (first | refine b18_44 ?_ | refine b18_50 ?_ | dsimp only [jb_e0, jb_ec, jb_n, jb_c, jx_op, j1i_c, j2i_c, j1l_c, j2l_c, jil_c, j1r_c, jri_c, jrii_c, jril_c, jrl_c, jrr_c, j2i'_c, jdup_i, jdup_r, jdup2_c, jdup2_l, jpo_c, jli, jll, jlr, jat_0, jat_s, jst, jst2, jkill_i, jkill_r, jkill_l, jkill_n, jnone, jgv_0, jgv_1, jgv_2, jgv_3, jrv_s, jput_0, jput_1, jput_2, jput_3, jpop_0, jpop_1, jcl_s, jc1, jc2, jvi, Nat.reduceAdd, jol_i, jol_l, jol_n, jap_n, jap_c, List.map_cons, List.map_nil, List.sum_cons, List.sum_nil, jcI, jcL, jcR, gI_sI, gI_sL, gI_sR, gL_sI, gL_sL, gL_sR, gR_sI, gR_sL, gR_sR, gS_sI, gS_sL, gS_sR, gN_sI, gN_sL, gN_sR] | simp (disch := omega) only [Nat.zero_le, true_and, and_true, and_self, Nat.reduceLeDiff, true_or, or_true, false_or, or_false, Nat.reduceEqDiff, false_and, and_false, if_false, if_true, reduceIte, not_true_eq_false, not_false_eq_true, true_imp_iff, false_imp_iff, List.map_cons, List.map_nil, List.sum_cons, List.sum_nil, jcI, jcL, jcR, Nat.reduceAdd, jrv_s, j1r_c, jap_n, jap_c, gI_sI, gL_sL, gI_sL, gL_sI, an_lt, an_le, an_eq, an_lt0, an_0le, an_0lt, an_le0, an_eq0, an_eq1, an_1lt, an_le1, an_1le, an_lt1, an_eqm, an_sub, an_sub1, an_div, an_rem, an_in, an_in0, an_in1, an_cl, an_cl0, an_cl1, nI_add, nI_1, an_1a, pk_mul, Nat.reduceMul, jz10, jz01, j00, j11, jb0, Classical.not_not, eq_self, an_ite, an_of, an_nm, nI_l, lN_add, lN_mul, lN_i, lj_2, lj_3, lj_4, lj_5, lj_6, lj_7, lj_8, lj_9, lj_10, lj_11, lj_12, lj_13, lj_14, lj_15, lj_16, lj_17, lj_18, lj_19, lj_20, lj_21, lj_22, lj_23, lj_24, lj_25, lj_26, lj_27, lj_28, lj_29, lj_30, lj_31, lj_32, lj_33, lj_34, lj_35, lj_36, lj_37, lj_38, lj_39, lj_40, lj_48, lj_50, lj_57, lj_59, lj_60, lj_63, lj_64, lj_65, lj_90, lj_96, lj_97, lj_99, lj_100, lj_101, lj_105, lj_112, lj_114, lj_116, lj_119, lj_122, lj_128, lj_200, lj_255, lj_256, lj_500, lj_777, lj_1000, hWν.1, jr_43_0 hWν, jr_43_1 hWν, jr_43_2 hWν, jr_43_4 hWν, hWν.1, jS0_43, jS0_44, jS0_45, jS0_46, jS0_47, e1] | (refine br_c (fun _ => ?_) (fun _ => ?_) <;> try (exfalso; omega)) | (refine br_d (fun _ => ?_) (fun _ => ?_) <;> try (exfalso; omega)) | refine And.intro ?_ ?_ | (refine Nat.ne_of_gt ?_; omega))
        all_goals exact kk
      | false =>
        rw [hc] at e
        have e1 : gI ν 44 j = 0 := e
        have la : ∀ (d : Nat) (Q' : jQ), Q' (some (.int (jbi (sLA T ap (j / 8) (j % 8))))) ν → jC (d + 2) 19 [.ref 43, .ref t, .int (nI (j / 8)), .int (nI (j % 8))] ν Q' := fun d Q' kq => sp_leadApart hWν hK hXν hA (by omega) (by omega) (hR.1.2 j hj64 hc) kq
        cases hl : sLA T ap (j / 8) (j % 8) with
        | true =>
          have kk := ih (j + 1) (sI ν 44 j 1) (fun i => if i = j then true else ap i) true (by omega) (hF.trans (jFr.sI (by simp))) (fun i hi => by
            show gI (sI ν 44 j 1) 44 i = jbi (if i = j then true else ap i)
            rw [gI_sI]
            by_cases e : i = j
            · rw [if_pos ⟨rfl, e⟩, if_pos e]
              rfl
            · rw [if_neg (fun z => e z.2), if_neg e]
              exact hA i hi) (sRd_put hK hj64 hR hc hl)
          have j1 : (jbi true = 0) = False := by decide
          repeat' (first | refine b18_44 ?_ | refine b18_50 ?_ | refine la _ _ ?_ | dsimp only [jb_e0, jb_ec, jb_n, jb_c, jx_op, j1i_c, j2i_c, j1l_c, j2l_c, jil_c, j1r_c, jri_c, jrii_c, jril_c, jrl_c, jrr_c, j2i'_c, jdup_i, jdup_r, jdup2_c, jdup2_l, jpo_c, jli, jll, jlr, jat_0, jat_s, jst, jst2, jkill_i, jkill_r, jkill_l, jkill_n, jnone, jgv_0, jgv_1, jgv_2, jgv_3, jrv_s, jput_0, jput_1, jput_2, jput_3, jpop_0, jpop_1, jcl_s, jc1, jc2, jvi, Nat.reduceAdd, jol_i, jol_l, jol_n, jap_n, jap_c, List.map_cons, List.map_nil, List.sum_cons, List.sum_nil, jcI, jcL, jcR, gI_sI, gI_sL, gI_sR, gL_sI, gL_sL, gL_sR, gR_sI, gR_sL, gR_sR, gS_sI, gS_sL, gS_sR, gN_sI, gN_sL, gN_sR] | simp (disch := omega) only [Nat.zero_le, true_and, and_true, and_self, Nat.reduceLeDiff, true_or, or_true, false_or, or_false, Nat.reduceEqDiff, false_and, and_false, if_false, if_true, reduceIte, not_true_eq_false, not_false_eq_true, true_imp_iff, false_imp_iff, List.map_cons, List.map_nil, List.sum_cons, List.sum_nil, jcI, jcL, jcR, Nat.reduceAdd, jrv_s, j1r_c, jap_n, jap_c, gI_sI, gL_sL, gI_sL, gL_sI, an_lt, an_le, an_eq, an_lt0, an_0le, an_0lt, an_le0, an_eq0, an_eq1, an_1lt, an_le1, an_1le, an_lt1, an_eqm, an_sub, an_sub1, an_div, an_rem, an_in, an_in0, an_in1, an_cl, an_cl0, an_cl1, nI_add, nI_1, an_1a, pk_mul, Nat.reduceMul, jz10, jz01, j00, j11, jb0, Classical.not_not, eq_self, an_ite, an_of, an_nm, nI_l, lN_add, lN_mul, lN_i, lj_2, lj_3, lj_4, lj_5, lj_6, lj_7, lj_8, lj_9, lj_10, lj_11, lj_12, lj_13, lj_14, lj_15, lj_16, lj_17, lj_18, lj_19, lj_20, lj_21, lj_22, lj_23, lj_24, lj_25, lj_26, lj_27, lj_28, lj_29, lj_30, lj_31, lj_32, lj_33, lj_34, lj_35, lj_36, lj_37, lj_38, lj_39, lj_40, lj_48, lj_50, lj_57, lj_59, lj_60, lj_63, lj_64, lj_65, lj_90, lj_96, lj_97, lj_99, lj_100, lj_101, lj_105, lj_112, lj_114, lj_116, lj_119, lj_122, lj_128, lj_200, lj_255, lj_256, lj_500, lj_777, lj_1000, hWν.1, w0, jr_43_0 hWν, jr_43_1 hWν, jr_43_2 hWν, jr_43_4 hWν, hWν.1, jS0_43, jS0_44, jS0_45, jS0_46, jS0_47, e1, hl, j1] | (refine br_c (fun _ => ?_) (fun _ => ?_) <;> try (exfalso; omega)) | (refine br_d (fun _ => ?_) (fun _ => ?_) <;> try (exfalso; omega)) | refine And.intro ?_ ?_ | (refine Nat.ne_of_gt ?_; omega))
          all_goals exact kk
        | false =>
          have kk := ih (j + 1) ν ap more (by omega) hF hA (sRd_stay hK hj64 hR (Or.inr hl))
          have j1 : (jbi false = 0) = True := by decide
          repeat' (first | refine b18_44 ?_ | refine b18_50 ?_ | refine la _ _ ?_ | dsimp only [jb_e0, jb_ec, jb_n, jb_c, jx_op, j1i_c, j2i_c, j1l_c, j2l_c, jil_c, j1r_c, jri_c, jrii_c, jril_c, jrl_c, jrr_c, j2i'_c, jdup_i, jdup_r, jdup2_c, jdup2_l, jpo_c, jli, jll, jlr, jat_0, jat_s, jst, jst2, jkill_i, jkill_r, jkill_l, jkill_n, jnone, jgv_0, jgv_1, jgv_2, jgv_3, jrv_s, jput_0, jput_1, jput_2, jput_3, jpop_0, jpop_1, jcl_s, jc1, jc2, jvi, Nat.reduceAdd, jol_i, jol_l, jol_n, jap_n, jap_c, List.map_cons, List.map_nil, List.sum_cons, List.sum_nil, jcI, jcL, jcR, gI_sI, gI_sL, gI_sR, gL_sI, gL_sL, gL_sR, gR_sI, gR_sL, gR_sR, gS_sI, gS_sL, gS_sR, gN_sI, gN_sL, gN_sR] | simp (disch := omega) only [Nat.zero_le, true_and, and_true, and_self, Nat.reduceLeDiff, true_or, or_true, false_or, or_false, Nat.reduceEqDiff, false_and, and_false, if_false, if_true, reduceIte, not_true_eq_false, not_false_eq_true, true_imp_iff, false_imp_iff, List.map_cons, List.map_nil, List.sum_cons, List.sum_nil, jcI, jcL, jcR, Nat.reduceAdd, jrv_s, j1r_c, jap_n, jap_c, gI_sI, gL_sL, gI_sL, gL_sI, an_lt, an_le, an_eq, an_lt0, an_0le, an_0lt, an_le0, an_eq0, an_eq1, an_1lt, an_le1, an_1le, an_lt1, an_eqm, an_sub, an_sub1, an_div, an_rem, an_in, an_in0, an_in1, an_cl, an_cl0, an_cl1, nI_add, nI_1, an_1a, pk_mul, Nat.reduceMul, jz10, jz01, j00, j11, jb0, Classical.not_not, eq_self, an_ite, an_of, an_nm, nI_l, lN_add, lN_mul, lN_i, lj_2, lj_3, lj_4, lj_5, lj_6, lj_7, lj_8, lj_9, lj_10, lj_11, lj_12, lj_13, lj_14, lj_15, lj_16, lj_17, lj_18, lj_19, lj_20, lj_21, lj_22, lj_23, lj_24, lj_25, lj_26, lj_27, lj_28, lj_29, lj_30, lj_31, lj_32, lj_33, lj_34, lj_35, lj_36, lj_37, lj_38, lj_39, lj_40, lj_48, lj_50, lj_57, lj_59, lj_60, lj_63, lj_64, lj_65, lj_90, lj_96, lj_97, lj_99, lj_100, lj_101, lj_105, lj_112, lj_114, lj_116, lj_119, lj_122, lj_128, lj_200, lj_255, lj_256, lj_500, lj_777, lj_1000, hWν.1, w0, jr_43_0 hWν, jr_43_1 hWν, jr_43_2 hWν, jr_43_4 hWν, hWν.1, jS0_43, jS0_44, jS0_45, jS0_46, jS0_47, e1, hl, j1] | (refine br_c (fun _ => ?_) (fun _ => ?_) <;> try (exfalso; omega)) | (refine br_d (fun _ => ?_) (fun _ => ?_) <;> try (exfalso; omega)) | refine And.intro ?_ ?_ | (refine Nat.ne_of_gt ?_; omega))
          all_goals exact kk
  have kk := key 64 0 μ a0 false (by omega) jFr.rf hA0 ⟨hI, fun _ => ⟨fun _ _ => rfl, fun i hi => absurd hi (Nat.not_lt_zero _)⟩, fun z => (by cases z), Nat.le_refl _⟩
  refine e18 (b18_0 ?_)
  repeat' (first | refine b18_44 ?_ | refine b18_50 ?_ | dsimp only [jb_e0, jb_ec, jb_n, jb_c, jx_op, j1i_c, j2i_c, j1l_c, j2l_c, jil_c, j1r_c, jri_c, jrii_c, jril_c, jrl_c, jrr_c, j2i'_c, jdup_i, jdup_r, jdup2_c, jdup2_l, jpo_c, jli, jll, jlr, jat_0, jat_s, jst, jst2, jkill_i, jkill_r, jkill_l, jkill_n, jnone, jgv_0, jgv_1, jgv_2, jgv_3, jrv_s, jput_0, jput_1, jput_2, jput_3, jpop_0, jpop_1, jcl_s, jc1, jc2, jvi, Nat.reduceAdd, jol_i, jol_l, jol_n, jap_n, jap_c, List.map_cons, List.map_nil, List.sum_cons, List.sum_nil, jcI, jcL, jcR, gI_sI, gI_sL, gI_sR, gL_sI, gL_sL, gL_sR, gR_sI, gR_sL, gR_sR, gS_sI, gS_sL, gS_sR, gN_sI, gN_sL, gN_sR] | simp (disch := omega) only [Nat.zero_le, true_and, and_true, and_self, Nat.reduceLeDiff, true_or, or_true, false_or, or_false, Nat.reduceEqDiff, false_and, and_false, if_false, if_true, reduceIte, not_true_eq_false, not_false_eq_true, true_imp_iff, false_imp_iff, List.map_cons, List.map_nil, List.sum_cons, List.sum_nil, jcI, jcL, jcR, Nat.reduceAdd, jrv_s, j1r_c, jap_n, jap_c, gI_sI, gL_sL, gI_sL, gL_sI, an_lt, an_le, an_eq, an_lt0, an_0le, an_0lt, an_le0, an_eq0, an_eq1, an_1lt, an_le1, an_1le, an_lt1, an_eqm, an_sub, an_sub1, an_div, an_rem, an_in, an_in0, an_in1, an_cl, an_cl0, an_cl1, nI_add, nI_1, an_1a, pk_mul, Nat.reduceMul, jz10, jz01, j00, j11, jb0, Classical.not_not, eq_self, an_ite, an_of, an_nm, nI_l, lN_add, lN_mul, lN_i, lj_2, lj_3, lj_4, lj_5, lj_6, lj_7, lj_8, lj_9, lj_10, lj_11, lj_12, lj_13, lj_14, lj_15, lj_16, lj_17, lj_18, lj_19, lj_20, lj_21, lj_22, lj_23, lj_24, lj_25, lj_26, lj_27, lj_28, lj_29, lj_30, lj_31, lj_32, lj_33, lj_34, lj_35, lj_36, lj_37, lj_38, lj_39, lj_40, lj_48, lj_50, lj_57, lj_59, lj_60, lj_63, lj_64, lj_65, lj_90, lj_96, lj_97, lj_99, lj_100, lj_101, lj_105, lj_112, lj_114, lj_116, lj_119, lj_122, lj_128, lj_200, lj_255, lj_256, lj_500, lj_777, lj_1000] | (refine br_c (fun _ => ?_) (fun _ => ?_) <;> try (exfalso; omega)) | (refine br_d (fun _ => ?_) (fun _ => ?_) <;> try (exfalso; omega)) | refine And.intro ?_ ?_ | (refine Nat.ne_of_gt ?_; omega))
  all_goals exact kk
end JSA
