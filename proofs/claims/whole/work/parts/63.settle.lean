/-! a town of the class finds its steps and distances anew -/
section JSE
variable {d L t o : Nat} {μ : jMem} {Q : jQ} {T : jT}
def jTY (T : jT) (t : Nat) (μ : jMem) : Prop := (gI μ t 0 = nI (tP T) ∧ gI μ t 1 = nI (tLn T) ∧ gI μ t 2 = nI (tCr T) ∧ gI μ t 3 = nI (tSl T) ∧ gI μ t 4 = nI (tHe T) ∧ gI μ t 5 = nI (tMk T)) ∧ (∀ p, p < tP T → gI μ (t + 2) p = nI (tSi T p) ∧ gI μ (t + 3) p = nI (tFi T p) ∧ gI μ (t + 4) p = nI (tSe T p) ∧ gI μ (t + 5) p = nI (tD T p)) ∧
  (∀ p k, p < tP T → k < tD T p → gI μ (t + 6) (4 * p + k) = nI (tL T p k) ∧ gI μ (t + 7) (4 * p + k) = nI (tLe T p k)) ∧ (∀ l, l < tLn T → gI μ (t + 8) l = nI (tSh T l))
theorem jTY_of {ν : jMem} (q : ∀ a k, o ≤ a → a ≤ o + 8 → gI ν a k = gI μ a k) (h : jTY T o μ) : jTY T o ν := by
  obtain ⟨⟨a1, a2, a3, a4, a5, a6⟩, b, c, e⟩ := h
  refine ⟨⟨?_, ?_, ?_, ?_, ?_, ?_⟩, fun p hp => ?_, fun p k hp hk => ?_, fun l hl => ?_⟩
  · rw [q _ _ (by omega) (by omega)]; exact a1
  · rw [q _ _ (by omega) (by omega)]; exact a2
  · rw [q _ _ (by omega) (by omega)]; exact a3
  · rw [q _ _ (by omega) (by omega)]; exact a4
  · rw [q _ _ (by omega) (by omega)]; exact a5
  · rw [q _ _ (by omega) (by omega)]; exact a6
  · rw [q _ _ (by omega) (by omega), q _ _ (by omega) (by omega), q _ _ (by omega) (by omega), q _ _ (by omega) (by omega)]; exact b p hp
  · rw [q _ _ (by omega) (by omega), q _ _ (by omega) (by omega)]; exact c p k hp hk
  · rw [q _ _ (by omega) (by omega)]; exact e l hl
theorem jTY_fr {A : List Nat} {ν : jMem} (hA : ∀ a ∈ A, ¬ (o ≤ a ∧ a ≤ o + 8)) (hF : jFr A μ ν) (h : jTY T o μ) : jTY T o ν := jTY_of (fun a k h1 h2 => (hF.1 a (fun q => hA a q ⟨h1, h2⟩)).1 k) h
def jTO (o : Nat) : Prop := o = 12 ∨ o = 23
theorem jWo (ho : jTO o) (hW : jWd L t μ) : (jS0 L o = (6, 16) ∧ jS0 L (o + 1) = (101, 8) ∧ jS0 L (o + 2) = (100, 8) ∧ jS0 L (o + 3) = (100, 8) ∧ jS0 L (o + 4) = (100, 8) ∧ jS0 L (o + 5) = (100, 8) ∧ jS0 L (o + 6) = (100, 32) ∧ jS0 L (o + 7) = (100, 32) ∧ jS0 L (o + 8) = (103, 12) ∧ jS0 L (o + 9) = (100, 40) ∧ jS0 L (o + 10) = (100, 64)) ∧ (gR μ o 6 = some (o + 1) ∧ gR μ o 7 = some (o + 2) ∧ gR μ o 8 = some (o + 3) ∧ gR μ o 9 = some (o + 4) ∧ gR μ o 10 = some (o + 5) ∧ gR μ o 11 = some (o + 6) ∧ gR μ o 12 = some (o + 7) ∧ gR μ o 13 = some (o + 8) ∧ gR μ o 14 = some (o + 9) ∧ gR μ o 15 = some (o + 10)) := by
  rcases ho with rfl | rfl
  · exact ⟨⟨rfl, rfl, rfl, rfl, rfl, rfl, rfl, rfl, rfl, rfl, rfl⟩, jr_12_6 hW, jr_12_7 hW, jr_12_8 hW, jr_12_9 hW, jr_12_10 hW, jr_12_11 hW, jr_12_12 hW, jr_12_13 hW, jr_12_14 hW, jr_12_15 hW⟩
  · exact ⟨⟨rfl, rfl, rfl, rfl, rfl, rfl, rfl, rfl, rfl, rfl, rfl⟩, jr_23_6 hW, jr_23_7 hW, jr_23_8 hW, jr_23_9 hW, jr_23_10 hW, jr_23_11 hW, jr_23_12 hW, jr_23_13 hW, jr_23_14 hW, jr_23_15 hW⟩
theorem sq_isPlace {x : Int32} (ho : jTO o) (hW : jWd L t μ) (h8 : tP T ≤ 8) (q : gI μ o 0 = nI (tP T)) (h : Q (some (.int (if 0 ≤ x ∧ x < nI (tP T) then 1 else 0))) μ) : jC d 79 [.ref o, .int x] μ Q := by
  have s := (jWo ho hW).1.1
  have e8 := nI_le8 h8
  refine e79 (b79_0 ?_)
  repeat' (first | refine b79_22 ?_ | refine b79_23 ?_ | simp only [jb_e0, jb_ec, jb_n, jb_c, jx_op, j1i_c, j2i_c, j1l_c, j2l_c, jil_c, j1r_c, jri_c, jrii_c, jril_c, jrl_c, jrr_c, j2i'_c, jdup_i, jdup_r, jdup2_c, jdup2_l, jpo_c, jli, jll, jlr, jat_0, jat_s, jst, jst2, jkill_i, jkill_r, jkill_l, jkill_n, jnone, jgv_0, jgv_1, jgv_2, jgv_3, jrv_s, jput_0, jput_1, jput_2, jput_3, jpop_0, jpop_1, jcl_s, jc1, jc2, jvi, Nat.reduceAdd, jol_i, jol_l, jol_n, jap_n, jap_c, List.map_cons, List.map_nil, List.sum_cons, List.sum_nil, jcI, jcL, jcR, Nat.zero_le, true_and, and_true, and_self, Nat.reduceLeDiff, gI_sI, gI_sL, gI_sR, gL_sI, gL_sL, gL_sR, gR_sI, gR_sL, gR_sR, gS_sI, gS_sL, gS_sR, gN_sI, gN_sL, gN_sR, true_or, or_true, false_or, or_false, Nat.reduceEqDiff, false_and, and_false, if_false, if_true, reduceIte, not_true_eq_false, not_false_eq_true, true_imp_iff, false_imp_iff, hW.1, s, q] | refine br_c (fun _ => ?_) (fun _ => ?_) | refine And.intro ?_ ?_)
  all_goals (first | exact h | (rw [if_pos (by grind)] at h; exact h) | (rw [if_neg (by grind)] at h; exact h))
theorem sq_isPlace_n {p : Nat} (ho : jTO o) (hW : jWd L t μ) (h8 : tP T ≤ 8) (q : gI μ o 0 = nI (tP T)) (hp : p < tP T) (h : Q (some (.int 1)) μ) : jC d 79 [.ref o, .int (nI p)] μ Q := sq_isPlace ho hW h8 q (by rw [if_pos (jpl_n h8 hp)]; exact h)
theorem sq_isLane {x : Int32} (ho : jTO o) (hW : jWd L t μ) (h12 : tLn T ≤ 12) (q : gI μ o 1 = nI (tLn T)) (h : Q (some (.int (if 0 ≤ x ∧ x < nI (tLn T) then 1 else 0))) μ) : jC d 80 [.ref o, .int x] μ Q := by
  have s := (jWo ho hW).1.1
  have e12 : nI (tLn T) ≤ 12 := nI_le (b := 12) h12 (by omega)
  refine e80 (b80_0 ?_)
  repeat' (first | refine b80_22 ?_ | refine b80_23 ?_ | simp only [jb_e0, jb_ec, jb_n, jb_c, jx_op, j1i_c, j2i_c, j1l_c, j2l_c, jil_c, j1r_c, jri_c, jrii_c, jril_c, jrl_c, jrr_c, j2i'_c, jdup_i, jdup_r, jdup2_c, jdup2_l, jpo_c, jli, jll, jlr, jat_0, jat_s, jst, jst2, jkill_i, jkill_r, jkill_l, jkill_n, jnone, jgv_0, jgv_1, jgv_2, jgv_3, jrv_s, jput_0, jput_1, jput_2, jput_3, jpop_0, jpop_1, jcl_s, jc1, jc2, jvi, Nat.reduceAdd, jol_i, jol_l, jol_n, jap_n, jap_c, List.map_cons, List.map_nil, List.sum_cons, List.sum_nil, jcI, jcL, jcR, Nat.zero_le, true_and, and_true, and_self, Nat.reduceLeDiff, gI_sI, gI_sL, gI_sR, gL_sI, gL_sL, gL_sR, gR_sI, gR_sL, gR_sR, gS_sI, gS_sL, gS_sR, gN_sI, gN_sL, gN_sR, true_or, or_true, false_or, or_false, Nat.reduceEqDiff, false_and, and_false, if_false, if_true, reduceIte, not_true_eq_false, not_false_eq_true, true_imp_iff, false_imp_iff, hW.1, s, q] | refine br_c (fun _ => ?_) (fun _ => ?_) | refine And.intro ?_ ?_)
  all_goals (first | exact h | (rw [if_pos (by grind)] at h; exact h) | (rw [if_neg (by grind)] at h; exact h))
theorem sq_isShut {l : Nat} (ho : jTO o) (hW : jWd L t μ) (hK : jTok T) (hY : jTY T o μ) (hl : l < tLn T) (h : Q (some (.int (if tSh T l = 0 then 0 else 1))) μ) : jC (d + 1) 90 [.ref o, .int (nI l)] μ Q := by
  have s := jWo ho hW
  have h12 := hK.1.2.1
  have q := hY.2.2.2 l hl
  have q1 := (hK.2.2.2 l hl).1
  have il : ∀ (d : Nat) (Q' : jQ), Q' (some (.int 1)) μ → jC d 80 [.ref o, .int (nI l)] μ Q' := fun d Q' k => sq_isLane ho hW h12 hY.1.2.1 (by rw [if_pos ⟨nI_pos' (by omega), nI_lt hl (by omega)⟩]; exact k)
  refine e90 (b90_0 ?_)
  repeat' (first | refine b90_21 ?_ | refine b90_22 ?_ | refine il _ _ ?_ | dsimp only [jb_e0, jb_ec, jb_n, jb_c, jx_op, j1i_c, j2i_c, j1l_c, j2l_c, jil_c, j1r_c, jri_c, jrii_c, jril_c, jrl_c, jrr_c, j2i'_c, jdup_i, jdup_r, jdup2_c, jdup2_l, jpo_c, jli, jll, jlr, jat_0, jat_s, jst, jst2, jkill_i, jkill_r, jkill_l, jkill_n, jnone, jgv_0, jgv_1, jgv_2, jgv_3, jrv_s, jput_0, jput_1, jput_2, jput_3, jpop_0, jpop_1, jcl_s, jc1, jc2, jvi, Nat.reduceAdd, jol_i, jol_l, jol_n, jap_n, jap_c, List.map_cons, List.map_nil, List.sum_cons, List.sum_nil, jcI, jcL, jcR, gI_sI, gI_sL, gI_sR, gL_sI, gL_sL, gL_sR, gR_sI, gR_sL, gR_sR, gS_sI, gS_sL, gS_sR, gN_sI, gN_sL, gN_sR] | simp (disch := omega) only [Nat.zero_le, true_and, and_true, and_self, Nat.reduceLeDiff, true_or, or_true, false_or, or_false, Nat.reduceEqDiff, false_and, and_false, if_false, if_true, reduceIte, not_true_eq_false, not_false_eq_true, true_imp_iff, false_imp_iff, List.map_cons, List.map_nil, List.sum_cons, List.sum_nil, jcI, jcL, jcR, Nat.reduceAdd, jrv_s, j1r_c, jap_n, jap_c, gI_sI, gL_sL, gI_sL, gL_sI, an_lt, an_le, an_eq, an_lt0, an_0le, an_0lt, an_le0, an_eq0, an_eq1, an_1lt, an_le1, an_1le, an_lt1, an_eqm, an_sub, an_sub1, an_div, an_rem, an_in, an_in0, an_in1, an_cl, an_cl0, an_cl1, nI_add, nI_1, an_1a, pk_mul, Nat.reduceMul, jz10, jz01, j00, j11, jb0, Classical.not_not, eq_self, an_ite, an_of, an_nm, nI_l, lN_add, lN_mul, lN_i, lj_2, lj_3, lj_4, lj_5, lj_6, lj_7, lj_8, lj_9, lj_10, lj_11, lj_12, lj_13, lj_14, lj_15, lj_16, lj_17, lj_18, lj_19, lj_20, lj_21, lj_22, lj_23, lj_24, lj_25, lj_26, lj_27, lj_28, lj_29, lj_30, lj_31, lj_32, lj_33, lj_34, lj_35, lj_36, lj_37, lj_38, lj_39, lj_40, lj_48, lj_50, lj_57, lj_59, lj_60, lj_63, lj_64, lj_65, lj_90, lj_96, lj_97, lj_99, lj_100, lj_101, lj_105, lj_112, lj_114, lj_116, lj_119, lj_122, lj_128, lj_200, lj_255, lj_256, lj_500, lj_777, lj_1000, hW.1, s.1, s.2, q] | (refine br_c (fun _ => ?_) (fun _ => ?_) <;> try (exfalso; omega)) | (refine br_d (fun _ => ?_) (fun _ => ?_) <;> try (exfalso; omega)) | refine And.intro ?_ ?_ | (refine Nat.ne_of_gt ?_; omega))
  all_goals (first | exact h | (rw [if_pos (by omega)] at h; exact h) | (rw [if_neg (by omega)] at h; exact h))
theorem sq_leadsTo {p k : Nat} (ho : jTO o) (hW : jWd L t μ) (hK : jTok T) (hY : jTY T o μ) (hp : p < tP T) (hk : k < 4) (h : Q (some (.int (if k < tD T p then nI (tLe T p k) else -1))) μ) : jC (d + 1) 88 [.ref o, .int (nI p), .int (nI k)] μ Q := by
  have s := jWo ho hW
  have h8 := hK.1.1
  have d4 := (hK.2.1 p hp).2.2.2
  have q := (hY.2.1 p hp).2.2.2
  have ip : ∀ (d : Nat) (Q' : jQ), Q' (some (.int 1)) μ → jC d 79 [.ref o, .int (nI p)] μ Q' := fun d Q' k => sq_isPlace_n ho hW h8 hY.1.1 hp k
  refine e88 (b88_0 ?_)
  by_cases c : k < tD T p
  · have q2 := (hY.2.2.1 p k hp c).2
    rw [Nat.mul_comm] at q2
    rw [if_pos c] at h
    repeat' (first | refine b88_31 ?_ | refine b88_32 ?_ | refine b88_50 ?_ | refine b88_51 ?_ | refine ip _ _ ?_ | dsimp only [jb_e0, jb_ec, jb_n, jb_c, jx_op, j1i_c, j2i_c, j1l_c, j2l_c, jil_c, j1r_c, jri_c, jrii_c, jril_c, jrl_c, jrr_c, j2i'_c, jdup_i, jdup_r, jdup2_c, jdup2_l, jpo_c, jli, jll, jlr, jat_0, jat_s, jst, jst2, jkill_i, jkill_r, jkill_l, jkill_n, jnone, jgv_0, jgv_1, jgv_2, jgv_3, jrv_s, jput_0, jput_1, jput_2, jput_3, jpop_0, jpop_1, jcl_s, jc1, jc2, jvi, Nat.reduceAdd, jol_i, jol_l, jol_n, jap_n, jap_c, List.map_cons, List.map_nil, List.sum_cons, List.sum_nil, jcI, jcL, jcR, gI_sI, gI_sL, gI_sR, gL_sI, gL_sL, gL_sR, gR_sI, gR_sL, gR_sR, gS_sI, gS_sL, gS_sR, gN_sI, gN_sL, gN_sR] | simp (disch := omega) only [Nat.zero_le, true_and, and_true, and_self, Nat.reduceLeDiff, true_or, or_true, false_or, or_false, Nat.reduceEqDiff, false_and, and_false, if_false, if_true, reduceIte, not_true_eq_false, not_false_eq_true, true_imp_iff, false_imp_iff, List.map_cons, List.map_nil, List.sum_cons, List.sum_nil, jcI, jcL, jcR, Nat.reduceAdd, jrv_s, j1r_c, jap_n, jap_c, gI_sI, gL_sL, gI_sL, gL_sI, an_lt, an_le, an_eq, an_lt0, an_0le, an_0lt, an_le0, an_eq0, an_eq1, an_1lt, an_le1, an_1le, an_lt1, an_eqm, an_sub, an_sub1, an_div, an_rem, an_in, an_in0, an_in1, an_cl, an_cl0, an_cl1, nI_add, nI_1, an_1a, pk_mul, Nat.reduceMul, jz10, jz01, j00, j11, jb0, Classical.not_not, eq_self, an_ite, an_of, an_nm, nI_l, lN_add, lN_mul, lN_i, lj_2, lj_3, lj_4, lj_5, lj_6, lj_7, lj_8, lj_9, lj_10, lj_11, lj_12, lj_13, lj_14, lj_15, lj_16, lj_17, lj_18, lj_19, lj_20, lj_21, lj_22, lj_23, lj_24, lj_25, lj_26, lj_27, lj_28, lj_29, lj_30, lj_31, lj_32, lj_33, lj_34, lj_35, lj_36, lj_37, lj_38, lj_39, lj_40, lj_48, lj_50, lj_57, lj_59, lj_60, lj_63, lj_64, lj_65, lj_90, lj_96, lj_97, lj_99, lj_100, lj_101, lj_105, lj_112, lj_114, lj_116, lj_119, lj_122, lj_128, lj_200, lj_255, lj_256, lj_500, lj_777, lj_1000, hW.1, s.1, s.2, q, q2] | (refine br_c (fun _ => ?_) (fun _ => ?_) <;> try (exfalso; omega)) | (refine br_d (fun _ => ?_) (fun _ => ?_) <;> try (exfalso; omega)) | refine And.intro ?_ ?_ | (refine Nat.ne_of_gt ?_; omega))
    all_goals exact h
  · rw [if_neg c] at h
    repeat' (first | refine b88_31 ?_ | refine b88_32 ?_ | refine b88_50 ?_ | refine b88_51 ?_ | refine ip _ _ ?_ | dsimp only [jb_e0, jb_ec, jb_n, jb_c, jx_op, j1i_c, j2i_c, j1l_c, j2l_c, jil_c, j1r_c, jri_c, jrii_c, jril_c, jrl_c, jrr_c, j2i'_c, jdup_i, jdup_r, jdup2_c, jdup2_l, jpo_c, jli, jll, jlr, jat_0, jat_s, jst, jst2, jkill_i, jkill_r, jkill_l, jkill_n, jnone, jgv_0, jgv_1, jgv_2, jgv_3, jrv_s, jput_0, jput_1, jput_2, jput_3, jpop_0, jpop_1, jcl_s, jc1, jc2, jvi, Nat.reduceAdd, jol_i, jol_l, jol_n, jap_n, jap_c, List.map_cons, List.map_nil, List.sum_cons, List.sum_nil, jcI, jcL, jcR, gI_sI, gI_sL, gI_sR, gL_sI, gL_sL, gL_sR, gR_sI, gR_sL, gR_sR, gS_sI, gS_sL, gS_sR, gN_sI, gN_sL, gN_sR] | simp (disch := omega) only [Nat.zero_le, true_and, and_true, and_self, Nat.reduceLeDiff, true_or, or_true, false_or, or_false, Nat.reduceEqDiff, false_and, and_false, if_false, if_true, reduceIte, not_true_eq_false, not_false_eq_true, true_imp_iff, false_imp_iff, List.map_cons, List.map_nil, List.sum_cons, List.sum_nil, jcI, jcL, jcR, Nat.reduceAdd, jrv_s, j1r_c, jap_n, jap_c, gI_sI, gL_sL, gI_sL, gL_sI, an_lt, an_le, an_eq, an_lt0, an_0le, an_0lt, an_le0, an_eq0, an_eq1, an_1lt, an_le1, an_1le, an_lt1, an_eqm, an_sub, an_sub1, an_div, an_rem, an_in, an_in0, an_in1, an_cl, an_cl0, an_cl1, nI_add, nI_1, an_1a, pk_mul, Nat.reduceMul, jz10, jz01, j00, j11, jb0, Classical.not_not, eq_self, an_ite, an_of, an_nm, nI_l, lN_add, lN_mul, lN_i, lj_2, lj_3, lj_4, lj_5, lj_6, lj_7, lj_8, lj_9, lj_10, lj_11, lj_12, lj_13, lj_14, lj_15, lj_16, lj_17, lj_18, lj_19, lj_20, lj_21, lj_22, lj_23, lj_24, lj_25, lj_26, lj_27, lj_28, lj_29, lj_30, lj_31, lj_32, lj_33, lj_34, lj_35, lj_36, lj_37, lj_38, lj_39, lj_40, lj_48, lj_50, lj_57, lj_59, lj_60, lj_63, lj_64, lj_65, lj_90, lj_96, lj_97, lj_99, lj_100, lj_101, lj_105, lj_112, lj_114, lj_116, lj_119, lj_122, lj_128, lj_200, lj_255, lj_256, lj_500, lj_777, lj_1000, hW.1, s.1, s.2, q] | (refine br_c (fun _ => ?_) (fun _ => ?_) <;> try (exfalso; omega)) | (refine br_d (fun _ => ?_) (fun _ => ?_) <;> try (exfalso; omega)) | refine And.intro ?_ ?_ | (refine Nat.ne_of_gt ?_; omega))
    all_goals exact h
/-- steps that are laid already -/
def jLd (T : jT) (o : Nat) (μ : jMem) (p s : Nat) : Prop := gI μ (o + 9) (5 * p + s) = nI (tA T p s)
theorem set_step {p k : Nat} {z3 z4 : Option Value} (ho : jTO o) (hW : jWd L t μ) (hK : jTok T) (hY : jTY T o μ) (hp : p < tP T) (hk : k < 4) (h : ∀ x z3 z4, sI μ (o + 9) (5 * p + k + 1) (nI (tA T p (k + 1))) = x → jR (d + 2) 93 27 [some (.ref o), some (.int (nI p)), some (.int (nI (k + 1))), z3, z4] [] (0, 0) x Q) : jR (d + 2) 93 27 [some (.ref o), some (.int (nI p)), some (.int (nI k)), z3, z4] [] (0, 0) μ Q := by
  have s := jWo ho hW
  have h8 := hK.1.1
  have h12 := hK.1.2.1
  refine b93_27 ?_
  by_cases c : k < tD T p
  · have q2 := (hY.2.2.1 p k hp c).1
    rw [Nat.mul_comm] at q2
    have hl := (hK.2.2.1 p k hp c).1
    have hlt := tLe_lt hK hp c
    have lt : ∀ (d : Nat) (Q' : jQ), Q' (some (.int (nI (tLe T p k)))) μ → jC (d + 1) 88 [.ref o, .int (nI p), .int (nI k)] μ Q' := fun d Q' k => sq_leadsTo ho hW hK hY hp hk (by rw [if_pos c]; exact k)
    by_cases cs : tSh T (tL T p k) = 0
    · have e : tA T p (k + 1) = tLe T p k := by
        unfold tA
        rw [if_pos ⟨by omega, by rw [Nat.add_sub_cancel]; exact c, by rw [Nat.add_sub_cancel]; exact cs⟩, Nat.add_sub_cancel]
      rw [e, Nat.mul_comm 5 p] at h
      have k2 := fun z3 z4 => h _ z3 z4 rfl
      repeat' (first | refine b93_65 ?_ | refine b93_66 ?_ | refine b93_88 ?_ | refine b93_89 ?_ | refine b93_102 ?_ | refine lt _ _ ?_ | refine sq_isShut ho hW hK hY hl ?_ | dsimp only [jb_e0, jb_ec, jb_n, jb_c, jx_op, j1i_c, j2i_c, j1l_c, j2l_c, jil_c, j1r_c, jri_c, jrii_c, jril_c, jrl_c, jrr_c, j2i'_c, jdup_i, jdup_r, jdup2_c, jdup2_l, jpo_c, jli, jll, jlr, jat_0, jat_s, jst, jst2, jkill_i, jkill_r, jkill_l, jkill_n, jnone, jgv_0, jgv_1, jgv_2, jgv_3, jrv_s, jput_0, jput_1, jput_2, jput_3, jpop_0, jpop_1, jcl_s, jc1, jc2, jvi, Nat.reduceAdd, jol_i, jol_l, jol_n, jap_n, jap_c, List.map_cons, List.map_nil, List.sum_cons, List.sum_nil, jcI, jcL, jcR, gI_sI, gI_sL, gI_sR, gL_sI, gL_sL, gL_sR, gR_sI, gR_sL, gR_sR, gS_sI, gS_sL, gS_sR, gN_sI, gN_sL, gN_sR] | simp (disch := omega) only [Nat.zero_le, true_and, and_true, and_self, Nat.reduceLeDiff, true_or, or_true, false_or, or_false, Nat.reduceEqDiff, false_and, and_false, if_false, if_true, reduceIte, not_true_eq_false, not_false_eq_true, true_imp_iff, false_imp_iff, List.map_cons, List.map_nil, List.sum_cons, List.sum_nil, jcI, jcL, jcR, Nat.reduceAdd, jrv_s, j1r_c, jap_n, jap_c, gI_sI, gL_sL, gI_sL, gL_sI, an_lt, an_le, an_eq, an_lt0, an_0le, an_0lt, an_le0, an_eq0, an_eq1, an_1lt, an_le1, an_1le, an_lt1, an_eqm, an_sub, an_sub1, an_div, an_rem, an_in, an_in0, an_in1, an_cl, an_cl0, an_cl1, nI_add, nI_1, an_1a, pk_mul, Nat.reduceMul, jz10, jz01, j00, j11, jb0, Classical.not_not, eq_self, an_ite, an_of, an_nm, nI_l, lN_add, lN_mul, lN_i, lj_2, lj_3, lj_4, lj_5, lj_6, lj_7, lj_8, lj_9, lj_10, lj_11, lj_12, lj_13, lj_14, lj_15, lj_16, lj_17, lj_18, lj_19, lj_20, lj_21, lj_22, lj_23, lj_24, lj_25, lj_26, lj_27, lj_28, lj_29, lj_30, lj_31, lj_32, lj_33, lj_34, lj_35, lj_36, lj_37, lj_38, lj_39, lj_40, lj_48, lj_50, lj_57, lj_59, lj_60, lj_63, lj_64, lj_65, lj_90, lj_96, lj_97, lj_99, lj_100, lj_101, lj_105, lj_112, lj_114, lj_116, lj_119, lj_122, lj_128, lj_200, lj_255, lj_256, lj_500, lj_777, lj_1000, hW.1, s.1, s.2, q2, cs] | (refine br_c (fun _ => ?_) (fun _ => ?_) <;> try (exfalso; omega)) | (refine br_d (fun _ => ?_) (fun _ => ?_) <;> try (exfalso; omega)) | refine And.intro ?_ ?_ | (refine Nat.ne_of_gt ?_; omega))
      all_goals exact k2 _ _
    · have e : tA T p (k + 1) = p := by
        unfold tA
        rw [if_neg (fun z => cs (by have := z.2.2; rw [Nat.add_sub_cancel] at this; exact this))]
      rw [e, Nat.mul_comm 5 p] at h
      have k2 := fun z3 z4 => h _ z3 z4 rfl
      repeat' (first | refine b93_65 ?_ | refine b93_66 ?_ | refine b93_88 ?_ | refine b93_89 ?_ | refine b93_102 ?_ | refine lt _ _ ?_ | refine sq_isShut ho hW hK hY hl ?_ | dsimp only [jb_e0, jb_ec, jb_n, jb_c, jx_op, j1i_c, j2i_c, j1l_c, j2l_c, jil_c, j1r_c, jri_c, jrii_c, jril_c, jrl_c, jrr_c, j2i'_c, jdup_i, jdup_r, jdup2_c, jdup2_l, jpo_c, jli, jll, jlr, jat_0, jat_s, jst, jst2, jkill_i, jkill_r, jkill_l, jkill_n, jnone, jgv_0, jgv_1, jgv_2, jgv_3, jrv_s, jput_0, jput_1, jput_2, jput_3, jpop_0, jpop_1, jcl_s, jc1, jc2, jvi, Nat.reduceAdd, jol_i, jol_l, jol_n, jap_n, jap_c, List.map_cons, List.map_nil, List.sum_cons, List.sum_nil, jcI, jcL, jcR, gI_sI, gI_sL, gI_sR, gL_sI, gL_sL, gL_sR, gR_sI, gR_sL, gR_sR, gS_sI, gS_sL, gS_sR, gN_sI, gN_sL, gN_sR] | simp (disch := omega) only [Nat.zero_le, true_and, and_true, and_self, Nat.reduceLeDiff, true_or, or_true, false_or, or_false, Nat.reduceEqDiff, false_and, and_false, if_false, if_true, reduceIte, not_true_eq_false, not_false_eq_true, true_imp_iff, false_imp_iff, List.map_cons, List.map_nil, List.sum_cons, List.sum_nil, jcI, jcL, jcR, Nat.reduceAdd, jrv_s, j1r_c, jap_n, jap_c, gI_sI, gL_sL, gI_sL, gL_sI, an_lt, an_le, an_eq, an_lt0, an_0le, an_0lt, an_le0, an_eq0, an_eq1, an_1lt, an_le1, an_1le, an_lt1, an_eqm, an_sub, an_sub1, an_div, an_rem, an_in, an_in0, an_in1, an_cl, an_cl0, an_cl1, nI_add, nI_1, an_1a, pk_mul, Nat.reduceMul, jz10, jz01, j00, j11, jb0, Classical.not_not, eq_self, an_ite, an_of, an_nm, nI_l, lN_add, lN_mul, lN_i, lj_2, lj_3, lj_4, lj_5, lj_6, lj_7, lj_8, lj_9, lj_10, lj_11, lj_12, lj_13, lj_14, lj_15, lj_16, lj_17, lj_18, lj_19, lj_20, lj_21, lj_22, lj_23, lj_24, lj_25, lj_26, lj_27, lj_28, lj_29, lj_30, lj_31, lj_32, lj_33, lj_34, lj_35, lj_36, lj_37, lj_38, lj_39, lj_40, lj_48, lj_50, lj_57, lj_59, lj_60, lj_63, lj_64, lj_65, lj_90, lj_96, lj_97, lj_99, lj_100, lj_101, lj_105, lj_112, lj_114, lj_116, lj_119, lj_122, lj_128, lj_200, lj_255, lj_256, lj_500, lj_777, lj_1000, hW.1, s.1, s.2, q2, cs] | (refine br_c (fun _ => ?_) (fun _ => ?_) <;> try (exfalso; omega)) | (refine br_d (fun _ => ?_) (fun _ => ?_) <;> try (exfalso; omega)) | refine And.intro ?_ ?_ | (refine Nat.ne_of_gt ?_; omega))
      all_goals exact k2 _ _
  · have lt : ∀ (d : Nat) (Q' : jQ), Q' (some (.int (-1))) μ → jC (d + 1) 88 [.ref o, .int (nI p), .int (nI k)] μ Q' := fun d Q' k => sq_leadsTo ho hW hK hY hp hk (by rw [if_neg c]; exact k)
    have e : tA T p (k + 1) = p := by
      unfold tA
      rw [if_neg (fun z => c (by have := z.2.1; rw [Nat.add_sub_cancel] at this; exact this))]
    rw [e, Nat.mul_comm 5 p] at h
    have k2 := fun z3 z4 => h _ z3 z4 rfl
    have ej : ((-1 : Int32) = -1) = True := eq_true rfl
    repeat' (first | refine b93_65 ?_ | refine b93_66 ?_ | refine b93_88 ?_ | refine b93_89 ?_ | refine b93_102 ?_ | refine lt _ _ ?_ | dsimp only [jb_e0, jb_ec, jb_n, jb_c, jx_op, j1i_c, j2i_c, j1l_c, j2l_c, jil_c, j1r_c, jri_c, jrii_c, jril_c, jrl_c, jrr_c, j2i'_c, jdup_i, jdup_r, jdup2_c, jdup2_l, jpo_c, jli, jll, jlr, jat_0, jat_s, jst, jst2, jkill_i, jkill_r, jkill_l, jkill_n, jnone, jgv_0, jgv_1, jgv_2, jgv_3, jrv_s, jput_0, jput_1, jput_2, jput_3, jpop_0, jpop_1, jcl_s, jc1, jc2, jvi, Nat.reduceAdd, jol_i, jol_l, jol_n, jap_n, jap_c, List.map_cons, List.map_nil, List.sum_cons, List.sum_nil, jcI, jcL, jcR, gI_sI, gI_sL, gI_sR, gL_sI, gL_sL, gL_sR, gR_sI, gR_sL, gR_sR, gS_sI, gS_sL, gS_sR, gN_sI, gN_sL, gN_sR] | simp (disch := omega) only [Nat.zero_le, true_and, and_true, and_self, Nat.reduceLeDiff, true_or, or_true, false_or, or_false, Nat.reduceEqDiff, false_and, and_false, if_false, if_true, reduceIte, not_true_eq_false, not_false_eq_true, true_imp_iff, false_imp_iff, List.map_cons, List.map_nil, List.sum_cons, List.sum_nil, jcI, jcL, jcR, Nat.reduceAdd, jrv_s, j1r_c, jap_n, jap_c, gI_sI, gL_sL, gI_sL, gL_sI, an_lt, an_le, an_eq, an_lt0, an_0le, an_0lt, an_le0, an_eq0, an_eq1, an_1lt, an_le1, an_1le, an_lt1, an_eqm, an_sub, an_sub1, an_div, an_rem, an_in, an_in0, an_in1, an_cl, an_cl0, an_cl1, nI_add, nI_1, an_1a, pk_mul, Nat.reduceMul, jz10, jz01, j00, j11, jb0, Classical.not_not, eq_self, an_ite, an_of, an_nm, nI_l, lN_add, lN_mul, lN_i, lj_2, lj_3, lj_4, lj_5, lj_6, lj_7, lj_8, lj_9, lj_10, lj_11, lj_12, lj_13, lj_14, lj_15, lj_16, lj_17, lj_18, lj_19, lj_20, lj_21, lj_22, lj_23, lj_24, lj_25, lj_26, lj_27, lj_28, lj_29, lj_30, lj_31, lj_32, lj_33, lj_34, lj_35, lj_36, lj_37, lj_38, lj_39, lj_40, lj_48, lj_50, lj_57, lj_59, lj_60, lj_63, lj_64, lj_65, lj_90, lj_96, lj_97, lj_99, lj_100, lj_101, lj_105, lj_112, lj_114, lj_116, lj_119, lj_122, lj_128, lj_200, lj_255, lj_256, lj_500, lj_777, lj_1000, hW.1, s.1, s.2, ej] | (refine br_c (fun _ => ?_) (fun _ => ?_) <;> try (exfalso; omega)) | (refine br_d (fun _ => ?_) (fun _ => ?_) <;> try (exfalso; omega)) | refine And.intro ?_ ?_ | (refine Nat.ne_of_gt ?_; omega))
    all_goals exact k2 _ _
theorem set_in {p : Nat} (ho : jTO o) (hW : jWd L t μ) (hK : jTok T) (hY : jTY T o μ) (hp : p < tP T) (h : ∀ ν z3 z4, jFr [o + 9] μ ν → (∀ s, s < 5 → jLd T o ν p s) → (∀ j, (j < 5 * p ∨ 5 * p + 5 ≤ j) → gI ν (o + 9) j = gI μ (o + 9) j) → jR (d + 2) 93 96 [some (.ref o), some (.int (nI p)), some (.int (nI 4)), z3, z4] [] (0, 0) ν Q) : ∀ (n k : Nat) (ν : jMem) (z3 z4 : Option Value), k + n = 4 → jFr [o + 9] μ ν → (∀ s, s < k + 1 → jLd T o ν p s) → (∀ j, (j < 5 * p ∨ 5 * p + 5 ≤ j) → gI ν (o + 9) j = gI μ (o + 9) j) → jR (d + 2) 93 27 [some (.ref o), some (.int (nI p)), some (.int (nI k)), z3, z4] [] (0, 0) ν Q := by
  intro n
  induction n with
  | zero =>
    intro k ν z3 z4 hk hF hl hj
    obtain rfl : k = 4 := by omega
    have hWν := hF.wd hW
    have k2 := h ν z3 z4 hF hl hj
    refine b93_27 ?_
    repeat' (first | refine b93_65 ?_ | refine b93_66 ?_ | refine b93_88 ?_ | refine b93_89 ?_ | refine b93_102 ?_ | dsimp only [jb_e0, jb_ec, jb_n, jb_c, jx_op, j1i_c, j2i_c, j1l_c, j2l_c, jil_c, j1r_c, jri_c, jrii_c, jril_c, jrl_c, jrr_c, j2i'_c, jdup_i, jdup_r, jdup2_c, jdup2_l, jpo_c, jli, jll, jlr, jat_0, jat_s, jst, jst2, jkill_i, jkill_r, jkill_l, jkill_n, jnone, jgv_0, jgv_1, jgv_2, jgv_3, jrv_s, jput_0, jput_1, jput_2, jput_3, jpop_0, jpop_1, jcl_s, jc1, jc2, jvi, Nat.reduceAdd, jol_i, jol_l, jol_n, jap_n, jap_c, List.map_cons, List.map_nil, List.sum_cons, List.sum_nil, jcI, jcL, jcR, gI_sI, gI_sL, gI_sR, gL_sI, gL_sL, gL_sR, gR_sI, gR_sL, gR_sR, gS_sI, gS_sL, gS_sR, gN_sI, gN_sL, gN_sR] | simp (disch := omega) only [Nat.zero_le, true_and, and_true, and_self, Nat.reduceLeDiff, true_or, or_true, false_or, or_false, Nat.reduceEqDiff, false_and, and_false, if_false, if_true, reduceIte, not_true_eq_false, not_false_eq_true, true_imp_iff, false_imp_iff, List.map_cons, List.map_nil, List.sum_cons, List.sum_nil, jcI, jcL, jcR, Nat.reduceAdd, jrv_s, j1r_c, jap_n, jap_c, gI_sI, gL_sL, gI_sL, gL_sI, an_lt, an_le, an_eq, an_lt0, an_0le, an_0lt, an_le0, an_eq0, an_eq1, an_1lt, an_le1, an_1le, an_lt1, an_eqm, an_sub, an_sub1, an_div, an_rem, an_in, an_in0, an_in1, an_cl, an_cl0, an_cl1, nI_add, nI_1, an_1a, pk_mul, Nat.reduceMul, jz10, jz01, j00, j11, jb0, Classical.not_not, eq_self, an_ite, an_of, an_nm, nI_l, lN_add, lN_mul, lN_i, lj_2, lj_3, lj_4, lj_5, lj_6, lj_7, lj_8, lj_9, lj_10, lj_11, lj_12, lj_13, lj_14, lj_15, lj_16, lj_17, lj_18, lj_19, lj_20, lj_21, lj_22, lj_23, lj_24, lj_25, lj_26, lj_27, lj_28, lj_29, lj_30, lj_31, lj_32, lj_33, lj_34, lj_35, lj_36, lj_37, lj_38, lj_39, lj_40, lj_48, lj_50, lj_57, lj_59, lj_60, lj_63, lj_64, lj_65, lj_90, lj_96, lj_97, lj_99, lj_100, lj_101, lj_105, lj_112, lj_114, lj_116, lj_119, lj_122, lj_128, lj_200, lj_255, lj_256, lj_500, lj_777, lj_1000, hWν.1] | (refine br_c (fun _ => ?_) (fun _ => ?_) <;> try (exfalso; omega)) | (refine br_d (fun _ => ?_) (fun _ => ?_) <;> try (exfalso; omega)) | refine And.intro ?_ ?_ | (refine Nat.ne_of_gt ?_; omega))
    all_goals exact k2
  | succ n ih =>
    intro k ν z3 z4 hk hF hl hj
    refine set_step ho (hF.wd hW) hK (jTY_fr (by simp) hF hY) hp (by omega) (fun x z3 z4 hx => ?_)
    subst hx
    refine ih (k + 1) _ z3 z4 (by omega) (hF.trans (jFr.sI (by simp))) (fun s hs => ?_) (fun j hjj => ?_)
    · unfold jLd
      rw [gI_sI]
      by_cases e : s = k + 1
      · subst e
        rw [if_pos ⟨rfl, by omega⟩]
      · rw [if_neg (by omega)]
        exact hl s (by omega)
    · rw [gI_sI, if_neg (by omega)]
      exact hj j hjj
/-! how far it is: sums over a third place -/
def fWd (R : Nat → Nat → Nat) (k x y : Nat) : Nat := if R x k + R k y < R x y then R x k + R k y else R x y
def fWI (T : jT) (R : Nat → Nat → Nat) (k : Nat) : Prop := (∀ x, x < tP T → R x x = 0) ∧ (∀ x y, x < tP T → y < tP T → R x y ≤ 100 ∧ (R x y = 100 ∨ R x y < 100 ∧ tR T (R x y) x y = true)) ∧ (∀ x s, x < tP T → s < 5 → R x (tA T x s) ≤ 1) ∧ ∀ c, c < k → ∀ x y, x < tP T → y < tP T → R x y ≤ R x c + R c y
theorem fWd_le {R : Nat → Nat → Nat} {k x y : Nat} : fWd R k x y ≤ R x y := by
  unfold fWd
  split <;> omega
theorem fWI_step (hK : jTok T) {R : Nat → Nat → Nat} {k : Nat} (hk : k < tP T) (h : fWI T R k) : fWI T (fWd R k) (k + 1) := by
  obtain ⟨h1, h2, h3, h4⟩ := h
  have hkk := h1 k hk
  refine ⟨fun x hx => ?_, fun x y hx hy => ?_, fun x s hx hs => Nat.le_trans fWd_le (h3 x s hx hs), fun c hc x y hx hy => ?_⟩
  · have := h1 x hx
    have := fWd_le (R := R) (k := k) (x := x) (y := x)
    omega
  · have a := h2 x y hx hy
    have b := h2 x k hx hk
    have e := h2 k y hk hy
    unfold fWd
    by_cases q : R x k + R k y < R x y
    · rw [if_pos q]
      refine ⟨by omega, Or.inr ⟨by omega, ?_⟩⟩
      rcases b.2 with b2 | ⟨-, b2⟩
      · omega
      · rcases e.2 with e2 | ⟨-, e2⟩
        · omega
        · exact tR_trans b2 e2
    · rw [if_neg q]
      exact a
  · by_cases q : c = k
    · subst q
      have e1 : fWd R c x c = R x c := by
        unfold fWd
        rw [if_neg (by omega)]
      have e2 : fWd R c c y = R c y := by
        unfold fWd
        rw [if_neg (by omega)]
      rw [e1, e2]
      unfold fWd
      split <;> omega
    · have hck : c < k := by omega
      have hcP : c < tP T := by omega
      have a1 := h4 c hck x y hx hy
      have a2 := h4 c hck x k hx hk
      have a3 := h4 c hck k y hk hy
      unfold fWd
      split <;> split <;> split <;> omega
theorem fWI_end (hK : jTok T) {R : Nat → Nat → Nat} (h : fWI T R (tP T)) {x y : Nat} (hx : x < tP T) (hy : y < tP T) : R x y = tDi T x y := by
  obtain ⟨h1, h2, h3, h4⟩ := h
  refine (tDi_uniq hK hx (h2 x y hx hy).2 (fun n hn => ?_)).symm
  revert x
  induction n with
  | zero =>
    intro x hx hn
    rw [tR_0] at hn
    subst hn
    rw [h1 x hx]
    exact Nat.le_refl _
  | succ n ih =>
    intro x hx hn
    rcases tR_succ.mp hn with hn | ⟨s, hs, hn⟩
    · have := ih hx hn
      omega
    · have hA := tA_lt (s := s) hK hx
      have b := ih hA hn
      have c := h3 x s hx hs
      have e := h4 _ hA x y hx hy
      omega
/-- the distances as a table -/
def jDs (T : jT) (o : Nat) (μ : jMem) (R : Nat → Nat → Nat) : Prop := ∀ x y, x < tP T → y < tP T → gI μ (o + 10) (8 * x + y) = nI (R x y)
theorem sq_between {a b : Nat} {R : Nat → Nat → Nat} (ho : jTO o) (hW : jWd L t μ) (h8 : tP T ≤ 8) (q0 : gI μ o 0 = nI (tP T)) (hD : jDs T o μ R) (ha : a < tP T) (hb : b < tP T) (h : Q (some (.int (nI (R a b)))) μ) : jC (d + 1) 96 [.ref o, .int (nI a), .int (nI b)] μ Q := by
  have s := jWo ho hW
  have q := hD a b ha hb
  rw [Nat.mul_comm] at q
  have ia : ∀ (d : Nat) (Q' : jQ), Q' (some (.int 1)) μ → jC d 79 [.ref o, .int (nI a)] μ Q' := fun d Q' k => sq_isPlace_n ho hW h8 q0 ha k
  have ib : ∀ (d : Nat) (Q' : jQ), Q' (some (.int 1)) μ → jC d 79 [.ref o, .int (nI b)] μ Q' := fun d Q' k => sq_isPlace_n ho hW h8 q0 hb k
  refine e96 (b96_0 ?_)
  repeat' (first | refine b96_30 ?_ | refine b96_32 ?_ | refine ia _ _ ?_ | refine ib _ _ ?_ | dsimp only [jb_e0, jb_ec, jb_n, jb_c, jx_op, j1i_c, j2i_c, j1l_c, j2l_c, jil_c, j1r_c, jri_c, jrii_c, jril_c, jrl_c, jrr_c, j2i'_c, jdup_i, jdup_r, jdup2_c, jdup2_l, jpo_c, jli, jll, jlr, jat_0, jat_s, jst, jst2, jkill_i, jkill_r, jkill_l, jkill_n, jnone, jgv_0, jgv_1, jgv_2, jgv_3, jrv_s, jput_0, jput_1, jput_2, jput_3, jpop_0, jpop_1, jcl_s, jc1, jc2, jvi, Nat.reduceAdd, jol_i, jol_l, jol_n, jap_n, jap_c, List.map_cons, List.map_nil, List.sum_cons, List.sum_nil, jcI, jcL, jcR, gI_sI, gI_sL, gI_sR, gL_sI, gL_sL, gL_sR, gR_sI, gR_sL, gR_sR, gS_sI, gS_sL, gS_sR, gN_sI, gN_sL, gN_sR] | simp (disch := omega) only [Nat.zero_le, true_and, and_true, and_self, Nat.reduceLeDiff, true_or, or_true, false_or, or_false, Nat.reduceEqDiff, false_and, and_false, if_false, if_true, reduceIte, not_true_eq_false, not_false_eq_true, true_imp_iff, false_imp_iff, List.map_cons, List.map_nil, List.sum_cons, List.sum_nil, jcI, jcL, jcR, Nat.reduceAdd, jrv_s, j1r_c, jap_n, jap_c, gI_sI, gL_sL, gI_sL, gL_sI, an_lt, an_le, an_eq, an_lt0, an_0le, an_0lt, an_le0, an_eq0, an_eq1, an_1lt, an_le1, an_1le, an_lt1, an_eqm, an_sub, an_sub1, an_div, an_rem, an_in, an_in0, an_in1, an_cl, an_cl0, an_cl1, nI_add, nI_1, an_1a, pk_mul, Nat.reduceMul, jz10, jz01, j00, j11, jb0, Classical.not_not, eq_self, an_ite, an_of, an_nm, nI_l, lN_add, lN_mul, lN_i, lj_2, lj_3, lj_4, lj_5, lj_6, lj_7, lj_8, lj_9, lj_10, lj_11, lj_12, lj_13, lj_14, lj_15, lj_16, lj_17, lj_18, lj_19, lj_20, lj_21, lj_22, lj_23, lj_24, lj_25, lj_26, lj_27, lj_28, lj_29, lj_30, lj_31, lj_32, lj_33, lj_34, lj_35, lj_36, lj_37, lj_38, lj_39, lj_40, lj_48, lj_50, lj_57, lj_59, lj_60, lj_63, lj_64, lj_65, lj_90, lj_96, lj_97, lj_99, lj_100, lj_101, lj_105, lj_112, lj_114, lj_116, lj_119, lj_122, lj_128, lj_200, lj_255, lj_256, lj_500, lj_777, lj_1000, hW.1, s.1, s.2, q] | (refine br_c (fun _ => ?_) (fun _ => ?_) <;> try (exfalso; omega)) | (refine br_d (fun _ => ?_) (fun _ => ?_) <;> try (exfalso; omega)) | refine And.intro ?_ ?_ | (refine Nat.ne_of_gt ?_; omega))
  all_goals exact h
def fUp (R : Nat → Nat → Nat) (a b m x y : Nat) : Nat := if x = a ∧ y = b then (if m < R a b then m else R a b) else R x y
theorem sq_shorten {a b m : Nat} {R : Nat → Nat → Nat} (ho : jTO o) (hW : jWd L t μ) (h8 : tP T ≤ 8) (q0 : gI μ o 0 = nI (tP T)) (hD : jDs T o μ R) (ha : a < tP T) (hb : b < tP T) (hm : m < 1000) (hR : R a b ≤ 100) (h : ∀ ν, jFr [o + 10] μ ν → jDs T o ν (fUp R a b m) → Q none ν) : jC (d + 1) 95 [.ref o, .int (nI a), .int (nI b), .int (nI m)] μ Q := by
  have s := jWo ho hW
  have q := hD a b ha hb
  rw [Nat.mul_comm] at q
  have ia : ∀ (d : Nat) (Q' : jQ), Q' (some (.int 1)) μ → jC d 79 [.ref o, .int (nI a)] μ Q' := fun d Q' k => sq_isPlace_n ho hW h8 q0 ha k
  have ib : ∀ (d : Nat) (Q' : jQ), Q' (some (.int 1)) μ → jC d 79 [.ref o, .int (nI b)] μ Q' := fun d Q' k => sq_isPlace_n ho hW h8 q0 hb k
  refine e95 (b95_0 ?_)
  by_cases c : m < R a b
  · have k := h (sI μ (o + 10) (8 * a + b) (nI m)) (jFr.sI (by simp)) (fun x y hx hy => by
      unfold fUp
      rw [gI_sI]
      by_cases e : x = a ∧ y = b
      · rw [if_pos ⟨rfl, by omega⟩, if_pos e, if_pos c]
      · rw [if_neg (by omega), if_neg e]
        exact hD x y hx hy)
    rw [Nat.mul_comm] at k
    repeat' (first | refine b95_43 ?_ | refine ia _ _ ?_ | refine ib _ _ ?_ | dsimp only [jb_e0, jb_ec, jb_n, jb_c, jx_op, j1i_c, j2i_c, j1l_c, j2l_c, jil_c, j1r_c, jri_c, jrii_c, jril_c, jrl_c, jrr_c, j2i'_c, jdup_i, jdup_r, jdup2_c, jdup2_l, jpo_c, jli, jll, jlr, jat_0, jat_s, jst, jst2, jkill_i, jkill_r, jkill_l, jkill_n, jnone, jgv_0, jgv_1, jgv_2, jgv_3, jrv_s, jput_0, jput_1, jput_2, jput_3, jpop_0, jpop_1, jcl_s, jc1, jc2, jvi, Nat.reduceAdd, jol_i, jol_l, jol_n, jap_n, jap_c, List.map_cons, List.map_nil, List.sum_cons, List.sum_nil, jcI, jcL, jcR, gI_sI, gI_sL, gI_sR, gL_sI, gL_sL, gL_sR, gR_sI, gR_sL, gR_sR, gS_sI, gS_sL, gS_sR, gN_sI, gN_sL, gN_sR] | simp (disch := omega) only [Nat.zero_le, true_and, and_true, and_self, Nat.reduceLeDiff, true_or, or_true, false_or, or_false, Nat.reduceEqDiff, false_and, and_false, if_false, if_true, reduceIte, not_true_eq_false, not_false_eq_true, true_imp_iff, false_imp_iff, List.map_cons, List.map_nil, List.sum_cons, List.sum_nil, jcI, jcL, jcR, Nat.reduceAdd, jrv_s, j1r_c, jap_n, jap_c, gI_sI, gL_sL, gI_sL, gL_sI, an_lt, an_le, an_eq, an_lt0, an_0le, an_0lt, an_le0, an_eq0, an_eq1, an_1lt, an_le1, an_1le, an_lt1, an_eqm, an_sub, an_sub1, an_div, an_rem, an_in, an_in0, an_in1, an_cl, an_cl0, an_cl1, nI_add, nI_1, an_1a, pk_mul, Nat.reduceMul, jz10, jz01, j00, j11, jb0, Classical.not_not, eq_self, an_ite, an_of, an_nm, nI_l, lN_add, lN_mul, lN_i, lj_2, lj_3, lj_4, lj_5, lj_6, lj_7, lj_8, lj_9, lj_10, lj_11, lj_12, lj_13, lj_14, lj_15, lj_16, lj_17, lj_18, lj_19, lj_20, lj_21, lj_22, lj_23, lj_24, lj_25, lj_26, lj_27, lj_28, lj_29, lj_30, lj_31, lj_32, lj_33, lj_34, lj_35, lj_36, lj_37, lj_38, lj_39, lj_40, lj_48, lj_50, lj_57, lj_59, lj_60, lj_63, lj_64, lj_65, lj_90, lj_96, lj_97, lj_99, lj_100, lj_101, lj_105, lj_112, lj_114, lj_116, lj_119, lj_122, lj_128, lj_200, lj_255, lj_256, lj_500, lj_777, lj_1000, hW.1, s.1, s.2, q] | (refine br_c (fun _ => ?_) (fun _ => ?_) <;> try (exfalso; omega)) | (refine br_d (fun _ => ?_) (fun _ => ?_) <;> try (exfalso; omega)) | refine And.intro ?_ ?_ | (refine Nat.ne_of_gt ?_; omega))
    all_goals exact k
  · have k := h μ jFr.rf (fun x y hx hy => by
      unfold fUp
      by_cases e : x = a ∧ y = b
      · rw [if_pos e, if_neg c, e.1, e.2]
        exact hD a b ha hb
      · rw [if_neg e]
        exact hD x y hx hy)
    repeat' (first | refine b95_43 ?_ | refine ia _ _ ?_ | refine ib _ _ ?_ | dsimp only [jb_e0, jb_ec, jb_n, jb_c, jx_op, j1i_c, j2i_c, j1l_c, j2l_c, jil_c, j1r_c, jri_c, jrii_c, jril_c, jrl_c, jrr_c, j2i'_c, jdup_i, jdup_r, jdup2_c, jdup2_l, jpo_c, jli, jll, jlr, jat_0, jat_s, jst, jst2, jkill_i, jkill_r, jkill_l, jkill_n, jnone, jgv_0, jgv_1, jgv_2, jgv_3, jrv_s, jput_0, jput_1, jput_2, jput_3, jpop_0, jpop_1, jcl_s, jc1, jc2, jvi, Nat.reduceAdd, jol_i, jol_l, jol_n, jap_n, jap_c, List.map_cons, List.map_nil, List.sum_cons, List.sum_nil, jcI, jcL, jcR, gI_sI, gI_sL, gI_sR, gL_sI, gL_sL, gL_sR, gR_sI, gR_sL, gR_sR, gS_sI, gS_sL, gS_sR, gN_sI, gN_sL, gN_sR] | simp (disch := omega) only [Nat.zero_le, true_and, and_true, and_self, Nat.reduceLeDiff, true_or, or_true, false_or, or_false, Nat.reduceEqDiff, false_and, and_false, if_false, if_true, reduceIte, not_true_eq_false, not_false_eq_true, true_imp_iff, false_imp_iff, List.map_cons, List.map_nil, List.sum_cons, List.sum_nil, jcI, jcL, jcR, Nat.reduceAdd, jrv_s, j1r_c, jap_n, jap_c, gI_sI, gL_sL, gI_sL, gL_sI, an_lt, an_le, an_eq, an_lt0, an_0le, an_0lt, an_le0, an_eq0, an_eq1, an_1lt, an_le1, an_1le, an_lt1, an_eqm, an_sub, an_sub1, an_div, an_rem, an_in, an_in0, an_in1, an_cl, an_cl0, an_cl1, nI_add, nI_1, an_1a, pk_mul, Nat.reduceMul, jz10, jz01, j00, j11, jb0, Classical.not_not, eq_self, an_ite, an_of, an_nm, nI_l, lN_add, lN_mul, lN_i, lj_2, lj_3, lj_4, lj_5, lj_6, lj_7, lj_8, lj_9, lj_10, lj_11, lj_12, lj_13, lj_14, lj_15, lj_16, lj_17, lj_18, lj_19, lj_20, lj_21, lj_22, lj_23, lj_24, lj_25, lj_26, lj_27, lj_28, lj_29, lj_30, lj_31, lj_32, lj_33, lj_34, lj_35, lj_36, lj_37, lj_38, lj_39, lj_40, lj_48, lj_50, lj_57, lj_59, lj_60, lj_63, lj_64, lj_65, lj_90, lj_96, lj_97, lj_99, lj_100, lj_101, lj_105, lj_112, lj_114, lj_116, lj_119, lj_122, lj_128, lj_200, lj_255, lj_256, lj_500, lj_777, lj_1000, hW.1, s.1, s.2, q] | (refine br_c (fun _ => ?_) (fun _ => ?_) <;> try (exfalso; omega)) | (refine br_d (fun _ => ?_) (fun _ => ?_) <;> try (exfalso; omega)) | refine And.intro ?_ ?_ | (refine Nat.ne_of_gt ?_; omega))
    all_goals exact k
theorem sq_shorten_m {a m : Nat} (ho : jTO o) (hW : jWd L t μ) (h8 : tP T ≤ 8) (q0 : gI μ o 0 = nI (tP T)) (ha : a < tP T) (h : Q none μ) : jC (d + 1) 95 [.ref o, .int (nI a), .int (-1), .int (nI m)] μ Q := by
  have s := jWo ho hW
  have ia : ∀ (d : Nat) (Q' : jQ), Q' (some (.int 1)) μ → jC d 79 [.ref o, .int (nI a)] μ Q' := fun d Q' k => sq_isPlace_n ho hW h8 q0 ha k
  have ib : ∀ (d : Nat) (Q' : jQ), Q' (some (.int 0)) μ → jC d 79 [.ref o, .int (-1)] μ Q' := fun d Q' k => sq_isPlace ho hW h8 q0 (by rw [if_neg (fun z => absurd z.1 (by decide))]; exact k)
  refine e95 (b95_0 ?_)
  repeat' (first | refine b95_43 ?_ | refine ia _ _ ?_ | refine ib _ _ ?_ | dsimp only [jb_e0, jb_ec, jb_n, jb_c, jx_op, j1i_c, j2i_c, j1l_c, j2l_c, jil_c, j1r_c, jri_c, jrii_c, jril_c, jrl_c, jrr_c, j2i'_c, jdup_i, jdup_r, jdup2_c, jdup2_l, jpo_c, jli, jll, jlr, jat_0, jat_s, jst, jst2, jkill_i, jkill_r, jkill_l, jkill_n, jnone, jgv_0, jgv_1, jgv_2, jgv_3, jrv_s, jput_0, jput_1, jput_2, jput_3, jpop_0, jpop_1, jcl_s, jc1, jc2, jvi, Nat.reduceAdd, jol_i, jol_l, jol_n, jap_n, jap_c, List.map_cons, List.map_nil, List.sum_cons, List.sum_nil, jcI, jcL, jcR, gI_sI, gI_sL, gI_sR, gL_sI, gL_sL, gL_sR, gR_sI, gR_sL, gR_sR, gS_sI, gS_sL, gS_sR, gN_sI, gN_sL, gN_sR] | simp (disch := omega) only [Nat.zero_le, true_and, and_true, and_self, Nat.reduceLeDiff, true_or, or_true, false_or, or_false, Nat.reduceEqDiff, false_and, and_false, if_false, if_true, reduceIte, not_true_eq_false, not_false_eq_true, true_imp_iff, false_imp_iff, List.map_cons, List.map_nil, List.sum_cons, List.sum_nil, jcI, jcL, jcR, Nat.reduceAdd, jrv_s, j1r_c, jap_n, jap_c, gI_sI, gL_sL, gI_sL, gL_sI, an_lt, an_le, an_eq, an_lt0, an_0le, an_0lt, an_le0, an_eq0, an_eq1, an_1lt, an_le1, an_1le, an_lt1, an_eqm, an_sub, an_sub1, an_div, an_rem, an_in, an_in0, an_in1, an_cl, an_cl0, an_cl1, nI_add, nI_1, an_1a, pk_mul, Nat.reduceMul, jz10, jz01, j00, j11, jb0, Classical.not_not, eq_self, an_ite, an_of, an_nm, nI_l, lN_add, lN_mul, lN_i, lj_2, lj_3, lj_4, lj_5, lj_6, lj_7, lj_8, lj_9, lj_10, lj_11, lj_12, lj_13, lj_14, lj_15, lj_16, lj_17, lj_18, lj_19, lj_20, lj_21, lj_22, lj_23, lj_24, lj_25, lj_26, lj_27, lj_28, lj_29, lj_30, lj_31, lj_32, lj_33, lj_34, lj_35, lj_36, lj_37, lj_38, lj_39, lj_40, lj_48, lj_50, lj_57, lj_59, lj_60, lj_63, lj_64, lj_65, lj_90, lj_96, lj_97, lj_99, lj_100, lj_101, lj_105, lj_112, lj_114, lj_116, lj_119, lj_122, lj_128, lj_200, lj_255, lj_256, lj_500, lj_777, lj_1000, hW.1, s.1, s.2] | (refine br_c (fun _ => ?_) (fun _ => ?_) <;> try (exfalso; omega)) | (refine br_d (fun _ => ?_) (fun _ => ?_) <;> try (exfalso; omega)) | refine And.intro ?_ ?_ | (refine Nat.ne_of_gt ?_; omega))
  all_goals exact h
theorem sq_opensTo {a k : Nat} (ho : jTO o) (hW : jWd L t μ) (hK : jTok T) (q0 : gI μ o 0 = nI (tP T)) (ha : a < tP T) (hk : k < 4) (hl : jLd T o μ a (k + 1)) (h : Q (some (.int (if tA T a (k + 1) = a then -1 else nI (tA T a (k + 1))))) μ) : jC (d + 2) 89 [.ref o, .int (nI a), .int (nI k)] μ Q := by
  have s := jWo ho hW
  have h8 := hK.1.1
  have hA := tA_lt (s := k + 1) hK ha
  unfold jLd at hl
  rw [Nat.mul_comm] at hl
  have ia : ∀ (d : Nat) (Q' : jQ), Q' (some (.int 1)) μ → jC d 79 [.ref o, .int (nI a)] μ Q' := fun d Q' k => sq_isPlace_n ho hW h8 q0 ha k
  have af : ∀ (d : Nat) (Q' : jQ), Q' (some (.int (nI (tA T a (k + 1))))) μ → jC (d + 1) 92 [.ref o, .int (nI a), .int (nI (k + 1))] μ Q' := fun d Q' kk => by
    refine e92 (b92_0 ?_)
    repeat' (first | refine b92_30 ?_ | refine b92_31 ?_ | refine ia _ _ ?_ | dsimp only [jb_e0, jb_ec, jb_n, jb_c, jx_op, j1i_c, j2i_c, j1l_c, j2l_c, jil_c, j1r_c, jri_c, jrii_c, jril_c, jrl_c, jrr_c, j2i'_c, jdup_i, jdup_r, jdup2_c, jdup2_l, jpo_c, jli, jll, jlr, jat_0, jat_s, jst, jst2, jkill_i, jkill_r, jkill_l, jkill_n, jnone, jgv_0, jgv_1, jgv_2, jgv_3, jrv_s, jput_0, jput_1, jput_2, jput_3, jpop_0, jpop_1, jcl_s, jc1, jc2, jvi, Nat.reduceAdd, jol_i, jol_l, jol_n, jap_n, jap_c, List.map_cons, List.map_nil, List.sum_cons, List.sum_nil, jcI, jcL, jcR, gI_sI, gI_sL, gI_sR, gL_sI, gL_sL, gL_sR, gR_sI, gR_sL, gR_sR, gS_sI, gS_sL, gS_sR, gN_sI, gN_sL, gN_sR] | simp (disch := omega) only [Nat.zero_le, true_and, and_true, and_self, Nat.reduceLeDiff, true_or, or_true, false_or, or_false, Nat.reduceEqDiff, false_and, and_false, if_false, if_true, reduceIte, not_true_eq_false, not_false_eq_true, true_imp_iff, false_imp_iff, List.map_cons, List.map_nil, List.sum_cons, List.sum_nil, jcI, jcL, jcR, Nat.reduceAdd, jrv_s, j1r_c, jap_n, jap_c, gI_sI, gL_sL, gI_sL, gL_sI, an_lt, an_le, an_eq, an_lt0, an_0le, an_0lt, an_le0, an_eq0, an_eq1, an_1lt, an_le1, an_1le, an_lt1, an_eqm, an_sub, an_sub1, an_div, an_rem, an_in, an_in0, an_in1, an_cl, an_cl0, an_cl1, nI_add, nI_1, an_1a, pk_mul, Nat.reduceMul, jz10, jz01, j00, j11, jb0, Classical.not_not, eq_self, an_ite, an_of, an_nm, nI_l, lN_add, lN_mul, lN_i, lj_2, lj_3, lj_4, lj_5, lj_6, lj_7, lj_8, lj_9, lj_10, lj_11, lj_12, lj_13, lj_14, lj_15, lj_16, lj_17, lj_18, lj_19, lj_20, lj_21, lj_22, lj_23, lj_24, lj_25, lj_26, lj_27, lj_28, lj_29, lj_30, lj_31, lj_32, lj_33, lj_34, lj_35, lj_36, lj_37, lj_38, lj_39, lj_40, lj_48, lj_50, lj_57, lj_59, lj_60, lj_63, lj_64, lj_65, lj_90, lj_96, lj_97, lj_99, lj_100, lj_101, lj_105, lj_112, lj_114, lj_116, lj_119, lj_122, lj_128, lj_200, lj_255, lj_256, lj_500, lj_777, lj_1000, hW.1, s.1, s.2, hl] | (refine br_c (fun _ => ?_) (fun _ => ?_) <;> try (exfalso; omega)) | (refine br_d (fun _ => ?_) (fun _ => ?_) <;> try (exfalso; omega)) | refine And.intro ?_ ?_ | (refine Nat.ne_of_gt ?_; omega))
    all_goals exact kk
  refine e89 (b89_0 ?_)
  by_cases c : tA T a (k + 1) = a
  · rw [if_pos c] at h
    repeat' (first | refine b89_18 ?_ | refine b89_19 ?_ | refine af _ _ ?_ | dsimp only [jb_e0, jb_ec, jb_n, jb_c, jx_op, j1i_c, j2i_c, j1l_c, j2l_c, jil_c, j1r_c, jri_c, jrii_c, jril_c, jrl_c, jrr_c, j2i'_c, jdup_i, jdup_r, jdup2_c, jdup2_l, jpo_c, jli, jll, jlr, jat_0, jat_s, jst, jst2, jkill_i, jkill_r, jkill_l, jkill_n, jnone, jgv_0, jgv_1, jgv_2, jgv_3, jrv_s, jput_0, jput_1, jput_2, jput_3, jpop_0, jpop_1, jcl_s, jc1, jc2, jvi, Nat.reduceAdd, jol_i, jol_l, jol_n, jap_n, jap_c, List.map_cons, List.map_nil, List.sum_cons, List.sum_nil, jcI, jcL, jcR, gI_sI, gI_sL, gI_sR, gL_sI, gL_sL, gL_sR, gR_sI, gR_sL, gR_sR, gS_sI, gS_sL, gS_sR, gN_sI, gN_sL, gN_sR] | simp (disch := omega) only [Nat.zero_le, true_and, and_true, and_self, Nat.reduceLeDiff, true_or, or_true, false_or, or_false, Nat.reduceEqDiff, false_and, and_false, if_false, if_true, reduceIte, not_true_eq_false, not_false_eq_true, true_imp_iff, false_imp_iff, List.map_cons, List.map_nil, List.sum_cons, List.sum_nil, jcI, jcL, jcR, Nat.reduceAdd, jrv_s, j1r_c, jap_n, jap_c, gI_sI, gL_sL, gI_sL, gL_sI, an_lt, an_le, an_eq, an_lt0, an_0le, an_0lt, an_le0, an_eq0, an_eq1, an_1lt, an_le1, an_1le, an_lt1, an_eqm, an_sub, an_sub1, an_div, an_rem, an_in, an_in0, an_in1, an_cl, an_cl0, an_cl1, nI_add, nI_1, an_1a, pk_mul, Nat.reduceMul, jz10, jz01, j00, j11, jb0, Classical.not_not, eq_self, an_ite, an_of, an_nm, nI_l, lN_add, lN_mul, lN_i, lj_2, lj_3, lj_4, lj_5, lj_6, lj_7, lj_8, lj_9, lj_10, lj_11, lj_12, lj_13, lj_14, lj_15, lj_16, lj_17, lj_18, lj_19, lj_20, lj_21, lj_22, lj_23, lj_24, lj_25, lj_26, lj_27, lj_28, lj_29, lj_30, lj_31, lj_32, lj_33, lj_34, lj_35, lj_36, lj_37, lj_38, lj_39, lj_40, lj_48, lj_50, lj_57, lj_59, lj_60, lj_63, lj_64, lj_65, lj_90, lj_96, lj_97, lj_99, lj_100, lj_101, lj_105, lj_112, lj_114, lj_116, lj_119, lj_122, lj_128, lj_200, lj_255, lj_256, lj_500, lj_777, lj_1000, hW.1, s.1, s.2] | (refine br_c (fun _ => ?_) (fun _ => ?_) <;> try (exfalso; omega)) | (refine br_d (fun _ => ?_) (fun _ => ?_) <;> try (exfalso; omega)) | refine And.intro ?_ ?_ | (refine Nat.ne_of_gt ?_; omega))
    all_goals exact h
  · rw [if_neg c] at h
    repeat' (first | refine b89_18 ?_ | refine b89_19 ?_ | refine af _ _ ?_ | dsimp only [jb_e0, jb_ec, jb_n, jb_c, jx_op, j1i_c, j2i_c, j1l_c, j2l_c, jil_c, j1r_c, jri_c, jrii_c, jril_c, jrl_c, jrr_c, j2i'_c, jdup_i, jdup_r, jdup2_c, jdup2_l, jpo_c, jli, jll, jlr, jat_0, jat_s, jst, jst2, jkill_i, jkill_r, jkill_l, jkill_n, jnone, jgv_0, jgv_1, jgv_2, jgv_3, jrv_s, jput_0, jput_1, jput_2, jput_3, jpop_0, jpop_1, jcl_s, jc1, jc2, jvi, Nat.reduceAdd, jol_i, jol_l, jol_n, jap_n, jap_c, List.map_cons, List.map_nil, List.sum_cons, List.sum_nil, jcI, jcL, jcR, gI_sI, gI_sL, gI_sR, gL_sI, gL_sL, gL_sR, gR_sI, gR_sL, gR_sR, gS_sI, gS_sL, gS_sR, gN_sI, gN_sL, gN_sR] | simp (disch := omega) only [Nat.zero_le, true_and, and_true, and_self, Nat.reduceLeDiff, true_or, or_true, false_or, or_false, Nat.reduceEqDiff, false_and, and_false, if_false, if_true, reduceIte, not_true_eq_false, not_false_eq_true, true_imp_iff, false_imp_iff, List.map_cons, List.map_nil, List.sum_cons, List.sum_nil, jcI, jcL, jcR, Nat.reduceAdd, jrv_s, j1r_c, jap_n, jap_c, gI_sI, gL_sL, gI_sL, gL_sI, an_lt, an_le, an_eq, an_lt0, an_0le, an_0lt, an_le0, an_eq0, an_eq1, an_1lt, an_le1, an_1le, an_lt1, an_eqm, an_sub, an_sub1, an_div, an_rem, an_in, an_in0, an_in1, an_cl, an_cl0, an_cl1, nI_add, nI_1, an_1a, pk_mul, Nat.reduceMul, jz10, jz01, j00, j11, jb0, Classical.not_not, eq_self, an_ite, an_of, an_nm, nI_l, lN_add, lN_mul, lN_i, lj_2, lj_3, lj_4, lj_5, lj_6, lj_7, lj_8, lj_9, lj_10, lj_11, lj_12, lj_13, lj_14, lj_15, lj_16, lj_17, lj_18, lj_19, lj_20, lj_21, lj_22, lj_23, lj_24, lj_25, lj_26, lj_27, lj_28, lj_29, lj_30, lj_31, lj_32, lj_33, lj_34, lj_35, lj_36, lj_37, lj_38, lj_39, lj_40, lj_48, lj_50, lj_57, lj_59, lj_60, lj_63, lj_64, lj_65, lj_90, lj_96, lj_97, lj_99, lj_100, lj_101, lj_105, lj_112, lj_114, lj_116, lj_119, lj_122, lj_128, lj_200, lj_255, lj_256, lj_500, lj_777, lj_1000, hW.1, s.1, s.2] | (refine br_c (fun _ => ?_) (fun _ => ?_) <;> try (exfalso; omega)) | (refine br_d (fun _ => ?_) (fun _ => ?_) <;> try (exfalso; omega)) | refine And.intro ?_ ?_ | (refine Nat.ne_of_gt ?_; omega))
    all_goals exact h
/-- while lanes are laid as distances -/
def fP (T : jT) (R : Nat → Nat → Nat) (a k : Nat) : Prop := (∀ x, x < tP T → R x x = 0) ∧ (∀ x y, x < tP T → y < tP T → R x y ≤ 100 ∧ (R x y = 100 ∨ R x y < 100 ∧ tR T (R x y) x y = true)) ∧ ∀ x s, x < tP T → s < 5 → (x < a ∨ x = a ∧ s ≤ k) → R x (tA T x s) ≤ 1
theorem fP_up (hK : jTok T) {R : Nat → Nat → Nat} {a k : Nat} (ha : a < tP T) (hk : k < 4) (c : ¬ tA T a (k + 1) = a) (h : fP T R a k) : fP T (fUp R a (tA T a (k + 1)) 1) a (k + 1) := by
  obtain ⟨h1, h2, h3⟩ := h
  have le : ∀ x y, fUp R a (tA T a (k + 1)) 1 x y ≤ R x y := fun x y => by
    unfold fUp
    split
    · next e =>
      obtain ⟨rfl, rfl⟩ := e
      split <;> omega
    · exact Nat.le_refl _
  refine ⟨fun x hx => ?_, fun x y hx hy => ?_, fun x s hx hs hxs => ?_⟩
  · have := h1 x hx
    have := le x x
    omega
  · have q := h2 x y hx hy
    unfold fUp
    split
    · next e =>
      obtain ⟨rfl, rfl⟩ := e
      split
      · exact ⟨by omega, Or.inr ⟨by omega, tR_step (by omega)⟩⟩
      · exact q
    · exact q
  · by_cases e : x = a ∧ s = k + 1
    · obtain ⟨rfl, rfl⟩ := e
      unfold fUp
      rw [if_pos ⟨rfl, rfl⟩]
      split <;> omega
    · exact Nat.le_trans (le _ _) (h3 x s hx hs (by omega))
theorem fP_same {R : Nat → Nat → Nat} {a k : Nat} (c : tA T a (k + 1) = a) (h : fP T R a k) : fP T R a (k + 1) :=
  ⟨h.1, h.2.1, fun x s hx hs hxs => by
    by_cases e : x = a ∧ s = k + 1
    · obtain ⟨rfl, rfl⟩ := e
      rw [c, h.1 x hx]
      omega
    · exact h.2.2 x s hx hs (by omega)⟩
theorem fP_row {R : Nat → Nat → Nat} {a : Nat} (h : fP T R a 4) : fP T R (a + 1) 0 :=
  ⟨h.1, h.2.1, fun x s hx hs hxs => by
    by_cases e : x = a + 1
    · obtain rfl : s = 0 := by omega
      rw [tA_0, h.1 x hx]
      omega
    · exact h.2.2 x s hx hs (by omega)⟩
theorem meas_in {a : Nat} (ho : jTO o) (hW : jWd L t μ) (hK : jTok T) (q0 : gI μ o 0 = nI (tP T)) (ha : a < tP T) (hl : ∀ s, s < 5 → jLd T o μ a s) (h : ∀ ν R, jFr [o + 10] μ ν → jDs T o ν R → fP T R a 4 → jR (d + 3) 94 72 [some (.ref o), some (.int (nI a)), some (.int (nI 4)), none, none] [] (0, 0) ν Q) : ∀ (n k : Nat) (ν : jMem) (R : Nat → Nat → Nat), k + n = 4 → jFr [o + 10] μ ν → jDs T o ν R → fP T R a k → jR (d + 3) 94 49 [some (.ref o), some (.int (nI a)), some (.int (nI k)), none, none] [] (0, 0) ν Q := by
  have h8 := hK.1.1
  intro n
  induction n with
  | zero =>
    intro k ν R hk hF hD hP
    obtain rfl : k = 4 := by omega
    have hWν := hF.wd hW
    have k2 := h ν R hF hD hP
    refine b94_49 ?_
    repeat' (first | refine b94_2 ?_ | refine b94_28 ?_ | refine b94_30 ?_ | refine b94_37 ?_ | refine b94_78 ?_ | refine b94_80 ?_ | refine b94_90 ?_ | refine b94_108 ?_ | refine b94_145 ?_ | refine b94_151 ?_ | refine b94_157 ?_ | dsimp only [jb_e0, jb_ec, jb_n, jb_c, jx_op, j1i_c, j2i_c, j1l_c, j2l_c, jil_c, j1r_c, jri_c, jrii_c, jril_c, jrl_c, jrr_c, j2i'_c, jdup_i, jdup_r, jdup2_c, jdup2_l, jpo_c, jli, jll, jlr, jat_0, jat_s, jst, jst2, jkill_i, jkill_r, jkill_l, jkill_n, jnone, jgv_0, jgv_1, jgv_2, jgv_3, jrv_s, jput_0, jput_1, jput_2, jput_3, jpop_0, jpop_1, jcl_s, jc1, jc2, jvi, Nat.reduceAdd, jol_i, jol_l, jol_n, jap_n, jap_c, List.map_cons, List.map_nil, List.sum_cons, List.sum_nil, jcI, jcL, jcR, gI_sI, gI_sL, gI_sR, gL_sI, gL_sL, gL_sR, gR_sI, gR_sL, gR_sR, gS_sI, gS_sL, gS_sR, gN_sI, gN_sL, gN_sR] | simp (disch := omega) only [Nat.zero_le, true_and, and_true, and_self, Nat.reduceLeDiff, true_or, or_true, false_or, or_false, Nat.reduceEqDiff, false_and, and_false, if_false, if_true, reduceIte, not_true_eq_false, not_false_eq_true, true_imp_iff, false_imp_iff, List.map_cons, List.map_nil, List.sum_cons, List.sum_nil, jcI, jcL, jcR, Nat.reduceAdd, jrv_s, j1r_c, jap_n, jap_c, gI_sI, gL_sL, gI_sL, gL_sI, an_lt, an_le, an_eq, an_lt0, an_0le, an_0lt, an_le0, an_eq0, an_eq1, an_1lt, an_le1, an_1le, an_lt1, an_eqm, an_sub, an_sub1, an_div, an_rem, an_in, an_in0, an_in1, an_cl, an_cl0, an_cl1, nI_add, nI_1, an_1a, pk_mul, Nat.reduceMul, jz10, jz01, j00, j11, jb0, Classical.not_not, eq_self, an_ite, an_of, an_nm, nI_l, lN_add, lN_mul, lN_i, lj_2, lj_3, lj_4, lj_5, lj_6, lj_7, lj_8, lj_9, lj_10, lj_11, lj_12, lj_13, lj_14, lj_15, lj_16, lj_17, lj_18, lj_19, lj_20, lj_21, lj_22, lj_23, lj_24, lj_25, lj_26, lj_27, lj_28, lj_29, lj_30, lj_31, lj_32, lj_33, lj_34, lj_35, lj_36, lj_37, lj_38, lj_39, lj_40, lj_48, lj_50, lj_57, lj_59, lj_60, lj_63, lj_64, lj_65, lj_90, lj_96, lj_97, lj_99, lj_100, lj_101, lj_105, lj_112, lj_114, lj_116, lj_119, lj_122, lj_128, lj_200, lj_255, lj_256, lj_500, lj_777, lj_1000, hWν.1] | (refine br_c (fun _ => ?_) (fun _ => ?_) <;> try (exfalso; omega)) | (refine br_d (fun _ => ?_) (fun _ => ?_) <;> try (exfalso; omega)) | refine And.intro ?_ ?_ | (refine Nat.ne_of_gt ?_; omega))
    all_goals exact k2
  | succ n ih =>
    intro k ν R hk hF hD hP
    have hWν := hF.wd hW
    have hk4 : k < 4 := by omega
    have s := jWo ho hWν
    have hA := tA_lt (s := k + 1) hK ha
    have q0' := ((hF.1 o (by simp)).1 0).trans q0
    have hl' : jLd T o ν a (k + 1) := ((hF.1 (o + 9) (by simp)).1 _).trans (hl (k + 1) (by omega))
    by_cases c : tA T a (k + 1) = a
    · have op : ∀ (d : Nat) (Q' : jQ), Q' (some (.int (-1))) ν → jC (d + 2) 89 [.ref o, .int (nI a), .int (nI k)] ν Q' := fun d Q' kk => sq_opensTo ho hWν hK q0' ha hk4 hl' (by rw [if_pos c]; exact kk)
      have sh : ∀ (d : Nat) (Q' : jQ), Q' none ν → jC (d + 1) 95 [.ref o, .int (nI a), .int (-1), .int 1] ν Q' := fun d Q' kk => sq_shorten_m (m := 1) ho hWν h8 q0' ha kk
      have k2 := ih (k + 1) ν R (by omega) hF hD (fP_same c hP)
      refine b94_49 ?_
      repeat' (first | refine b94_2 ?_ | refine b94_28 ?_ | refine b94_30 ?_ | refine b94_37 ?_ | refine b94_78 ?_ | refine b94_80 ?_ | refine b94_90 ?_ | refine b94_108 ?_ | refine b94_145 ?_ | refine b94_151 ?_ | refine b94_157 ?_ | refine op _ _ ?_ | refine sh _ _ ?_ | dsimp only [jb_e0, jb_ec, jb_n, jb_c, jx_op, j1i_c, j2i_c, j1l_c, j2l_c, jil_c, j1r_c, jri_c, jrii_c, jril_c, jrl_c, jrr_c, j2i'_c, jdup_i, jdup_r, jdup2_c, jdup2_l, jpo_c, jli, jll, jlr, jat_0, jat_s, jst, jst2, jkill_i, jkill_r, jkill_l, jkill_n, jnone, jgv_0, jgv_1, jgv_2, jgv_3, jrv_s, jput_0, jput_1, jput_2, jput_3, jpop_0, jpop_1, jcl_s, jc1, jc2, jvi, Nat.reduceAdd, jol_i, jol_l, jol_n, jap_n, jap_c, List.map_cons, List.map_nil, List.sum_cons, List.sum_nil, jcI, jcL, jcR, gI_sI, gI_sL, gI_sR, gL_sI, gL_sL, gL_sR, gR_sI, gR_sL, gR_sR, gS_sI, gS_sL, gS_sR, gN_sI, gN_sL, gN_sR] | simp (disch := omega) only [Nat.zero_le, true_and, and_true, and_self, Nat.reduceLeDiff, true_or, or_true, false_or, or_false, Nat.reduceEqDiff, false_and, and_false, if_false, if_true, reduceIte, not_true_eq_false, not_false_eq_true, true_imp_iff, false_imp_iff, List.map_cons, List.map_nil, List.sum_cons, List.sum_nil, jcI, jcL, jcR, Nat.reduceAdd, jrv_s, j1r_c, jap_n, jap_c, gI_sI, gL_sL, gI_sL, gL_sI, an_lt, an_le, an_eq, an_lt0, an_0le, an_0lt, an_le0, an_eq0, an_eq1, an_1lt, an_le1, an_1le, an_lt1, an_eqm, an_sub, an_sub1, an_div, an_rem, an_in, an_in0, an_in1, an_cl, an_cl0, an_cl1, nI_add, nI_1, an_1a, pk_mul, Nat.reduceMul, jz10, jz01, j00, j11, jb0, Classical.not_not, eq_self, an_ite, an_of, an_nm, nI_l, lN_add, lN_mul, lN_i, lj_2, lj_3, lj_4, lj_5, lj_6, lj_7, lj_8, lj_9, lj_10, lj_11, lj_12, lj_13, lj_14, lj_15, lj_16, lj_17, lj_18, lj_19, lj_20, lj_21, lj_22, lj_23, lj_24, lj_25, lj_26, lj_27, lj_28, lj_29, lj_30, lj_31, lj_32, lj_33, lj_34, lj_35, lj_36, lj_37, lj_38, lj_39, lj_40, lj_48, lj_50, lj_57, lj_59, lj_60, lj_63, lj_64, lj_65, lj_90, lj_96, lj_97, lj_99, lj_100, lj_101, lj_105, lj_112, lj_114, lj_116, lj_119, lj_122, lj_128, lj_200, lj_255, lj_256, lj_500, lj_777, lj_1000, hWν.1, s.1, s.2] | (refine br_c (fun _ => ?_) (fun _ => ?_) <;> try (exfalso; omega)) | (refine br_d (fun _ => ?_) (fun _ => ?_) <;> try (exfalso; omega)) | refine And.intro ?_ ?_ | (refine Nat.ne_of_gt ?_; omega))
      all_goals exact k2
    · have op : ∀ (d : Nat) (Q' : jQ), Q' (some (.int (nI (tA T a (k + 1))))) ν → jC (d + 2) 89 [.ref o, .int (nI a), .int (nI k)] ν Q' := fun d Q' kk => sq_opensTo ho hWν hK q0' ha hk4 hl' (by rw [if_neg c]; exact kk)
      have sh : ∀ (d : Nat) (Q' : jQ), (∀ ξ, jFr [o + 10] ν ξ → jDs T o ξ (fUp R a (tA T a (k + 1)) 1) → Q' none ξ) → jC (d + 1) 95 [.ref o, .int (nI a), .int (nI (tA T a (k + 1))), .int 1] ν Q' := fun d Q' kk => sq_shorten (m := 1) ho hWν h8 q0' hD ha hA (by omega) (hP.2.1 a _ ha hA).1 kk
      have k2 := fun ξ (G : jFr [o + 10] ν ξ) hD2 => ih (k + 1) ξ _ (by omega) (hF.trans G) hD2 (fP_up hK ha hk4 c hP)
      refine b94_49 ?_
      repeat' (first | refine b94_2 ?_ | refine b94_28 ?_ | refine b94_30 ?_ | refine b94_37 ?_ | refine b94_78 ?_ | refine b94_80 ?_ | refine b94_90 ?_ | refine b94_108 ?_ | refine b94_145 ?_ | refine b94_151 ?_ | refine b94_157 ?_ | refine op _ _ ?_ | refine sh _ _ (fun ξ G hD2 => ?_) | dsimp only [jb_e0, jb_ec, jb_n, jb_c, jx_op, j1i_c, j2i_c, j1l_c, j2l_c, jil_c, j1r_c, jri_c, jrii_c, jril_c, jrl_c, jrr_c, j2i'_c, jdup_i, jdup_r, jdup2_c, jdup2_l, jpo_c, jli, jll, jlr, jat_0, jat_s, jst, jst2, jkill_i, jkill_r, jkill_l, jkill_n, jnone, jgv_0, jgv_1, jgv_2, jgv_3, jrv_s, jput_0, jput_1, jput_2, jput_3, jpop_0, jpop_1, jcl_s, jc1, jc2, jvi, Nat.reduceAdd, jol_i, jol_l, jol_n, jap_n, jap_c, List.map_cons, List.map_nil, List.sum_cons, List.sum_nil, jcI, jcL, jcR, gI_sI, gI_sL, gI_sR, gL_sI, gL_sL, gL_sR, gR_sI, gR_sL, gR_sR, gS_sI, gS_sL, gS_sR, gN_sI, gN_sL, gN_sR] | simp (disch := omega) only [Nat.zero_le, true_and, and_true, and_self, Nat.reduceLeDiff, true_or, or_true, false_or, or_false, Nat.reduceEqDiff, false_and, and_false, if_false, if_true, reduceIte, not_true_eq_false, not_false_eq_true, true_imp_iff, false_imp_iff, List.map_cons, List.map_nil, List.sum_cons, List.sum_nil, jcI, jcL, jcR, Nat.reduceAdd, jrv_s, j1r_c, jap_n, jap_c, gI_sI, gL_sL, gI_sL, gL_sI, an_lt, an_le, an_eq, an_lt0, an_0le, an_0lt, an_le0, an_eq0, an_eq1, an_1lt, an_le1, an_1le, an_lt1, an_eqm, an_sub, an_sub1, an_div, an_rem, an_in, an_in0, an_in1, an_cl, an_cl0, an_cl1, nI_add, nI_1, an_1a, pk_mul, Nat.reduceMul, jz10, jz01, j00, j11, jb0, Classical.not_not, eq_self, an_ite, an_of, an_nm, nI_l, lN_add, lN_mul, lN_i, lj_2, lj_3, lj_4, lj_5, lj_6, lj_7, lj_8, lj_9, lj_10, lj_11, lj_12, lj_13, lj_14, lj_15, lj_16, lj_17, lj_18, lj_19, lj_20, lj_21, lj_22, lj_23, lj_24, lj_25, lj_26, lj_27, lj_28, lj_29, lj_30, lj_31, lj_32, lj_33, lj_34, lj_35, lj_36, lj_37, lj_38, lj_39, lj_40, lj_48, lj_50, lj_57, lj_59, lj_60, lj_63, lj_64, lj_65, lj_90, lj_96, lj_97, lj_99, lj_100, lj_101, lj_105, lj_112, lj_114, lj_116, lj_119, lj_122, lj_128, lj_200, lj_255, lj_256, lj_500, lj_777, lj_1000, hWν.1, s.1, s.2] | (refine br_c (fun _ => ?_) (fun _ => ?_) <;> try (exfalso; omega)) | (refine br_d (fun _ => ?_) (fun _ => ?_) <;> try (exfalso; omega)) | refine And.intro ?_ ?_ | (refine Nat.ne_of_gt ?_; omega))
      all_goals exact k2 ξ G hD2
/-- while one third place is tried -/
def fS (T : jT) (R R' : Nat → Nat → Nat) (k a b : Nat) : Prop := ∀ x y, x < tP T → y < tP T → R' x y = if x < a ∨ x = a ∧ y < b then fWd R k x y else R x y
theorem fW_row {R : Nat → Nat → Nat} {k y : Nat} (h : R k k = 0) : fWd R k k y = R k y := by
  unfold fWd
  rw [if_neg (by omega)]
theorem fW_col {R : Nat → Nat → Nat} {k x : Nat} (h : R k k = 0) : fWd R k x k = R x k := by
  unfold fWd
  rw [if_neg (by omega)]
theorem fw_in {k a : Nat} {R : Nat → Nat → Nat} (ho : jTO o) (hW : jWd L t μ) (hK : jTok T) (q0 : gI μ o 0 = nI (tP T)) (hk : k < tP T) (ha : a < tP T) (hI : fWI T R k) (h : ∀ ν R' z, jFr [o + 10] μ ν → jDs T o ν R' → fS T R R' k (a + 1) 0 → jR (d + 3) 94 145 [some (.ref o), some (.int (nI k)), some (.int (nI a)), some (.int (nI (R a k))), z] [] (0, 0) ν Q) : ∀ (n b : Nat) (ν : jMem) (R' : Nat → Nat → Nat), b + n = tP T → jFr [o + 10] μ ν → jDs T o ν R' → fS T R R' k a b → jR (d + 3) 94 108 [some (.ref o), some (.int (nI k)), some (.int (nI a)), some (.int (nI (R a k))), some (.int (nI b))] [] (0, 0) ν Q := by
  have h8 := hK.1.1
  have hkk := hI.1 k hk
  have hth := (hI.2.1 a k ha hk).1
  intro n
  induction n with
  | zero =>
    intro b ν R' hb hF hD hS
    obtain rfl : b = tP T := by omega
    have hWν := hF.wd hW
    have s := jWo ho hWν
    have q0' := ((hF.1 o (by simp)).1 0).trans q0
    have k2 := h ν R' (some (.int (nI (tP T)))) hF hD (fun x y hx hy => by
      rw [hS x y hx hy]
      by_cases c : x < a ∨ x = a ∧ y < tP T
      · rw [if_pos c, if_pos (by omega)]
      · rw [if_neg c, if_neg (by omega)])
    refine b94_108 ?_
    repeat' (first | refine b94_2 ?_ | refine b94_28 ?_ | refine b94_30 ?_ | refine b94_37 ?_ | refine b94_39 ?_ | refine b94_49 ?_ | refine b94_72 ?_ | refine b94_78 ?_ | refine b94_80 ?_ | refine b94_151 ?_ | refine b94_157 ?_ | dsimp only [jb_e0, jb_ec, jb_n, jb_c, jx_op, j1i_c, j2i_c, j1l_c, j2l_c, jil_c, j1r_c, jri_c, jrii_c, jril_c, jrl_c, jrr_c, j2i'_c, jdup_i, jdup_r, jdup2_c, jdup2_l, jpo_c, jli, jll, jlr, jat_0, jat_s, jst, jst2, jkill_i, jkill_r, jkill_l, jkill_n, jnone, jgv_0, jgv_1, jgv_2, jgv_3, jrv_s, jput_0, jput_1, jput_2, jput_3, jpop_0, jpop_1, jcl_s, jc1, jc2, jvi, Nat.reduceAdd, jol_i, jol_l, jol_n, jap_n, jap_c, List.map_cons, List.map_nil, List.sum_cons, List.sum_nil, jcI, jcL, jcR, gI_sI, gI_sL, gI_sR, gL_sI, gL_sL, gL_sR, gR_sI, gR_sL, gR_sR, gS_sI, gS_sL, gS_sR, gN_sI, gN_sL, gN_sR] | simp (disch := omega) only [Nat.zero_le, true_and, and_true, and_self, Nat.reduceLeDiff, true_or, or_true, false_or, or_false, Nat.reduceEqDiff, false_and, and_false, if_false, if_true, reduceIte, not_true_eq_false, not_false_eq_true, true_imp_iff, false_imp_iff, List.map_cons, List.map_nil, List.sum_cons, List.sum_nil, jcI, jcL, jcR, Nat.reduceAdd, jrv_s, j1r_c, jap_n, jap_c, gI_sI, gL_sL, gI_sL, gL_sI, an_lt, an_le, an_eq, an_lt0, an_0le, an_0lt, an_le0, an_eq0, an_eq1, an_1lt, an_le1, an_1le, an_lt1, an_eqm, an_sub, an_sub1, an_div, an_rem, an_in, an_in0, an_in1, an_cl, an_cl0, an_cl1, nI_add, nI_1, an_1a, pk_mul, Nat.reduceMul, jz10, jz01, j00, j11, jb0, Classical.not_not, eq_self, an_ite, an_of, an_nm, nI_l, lN_add, lN_mul, lN_i, lj_2, lj_3, lj_4, lj_5, lj_6, lj_7, lj_8, lj_9, lj_10, lj_11, lj_12, lj_13, lj_14, lj_15, lj_16, lj_17, lj_18, lj_19, lj_20, lj_21, lj_22, lj_23, lj_24, lj_25, lj_26, lj_27, lj_28, lj_29, lj_30, lj_31, lj_32, lj_33, lj_34, lj_35, lj_36, lj_37, lj_38, lj_39, lj_40, lj_48, lj_50, lj_57, lj_59, lj_60, lj_63, lj_64, lj_65, lj_90, lj_96, lj_97, lj_99, lj_100, lj_101, lj_105, lj_112, lj_114, lj_116, lj_119, lj_122, lj_128, lj_200, lj_255, lj_256, lj_500, lj_777, lj_1000, hWν.1, s.1, s.2, q0'] | (refine br_c (fun _ => ?_) (fun _ => ?_) <;> try (exfalso; omega)) | (refine br_d (fun _ => ?_) (fun _ => ?_) <;> try (exfalso; omega)) | refine And.intro ?_ ?_ | (refine Nat.ne_of_gt ?_; omega))
    all_goals exact k2
  | succ n ih =>
    intro b ν R' hb hF hD hS
    have hbP : b < tP T := by omega
    have hWν := hF.wd hW
    have s := jWo ho hWν
    have q0' := ((hF.1 o (by simp)).1 0).trans q0
    have eab : R' a b = R a b := by rw [hS a b ha hbP, if_neg (by omega)]
    have ekb : R' k b = R k b := by
      rw [hS k b hk hbP]
      split
      · exact fW_row hkk
      · rfl
    have bab := (hI.2.1 a b ha hbP).1
    have bkb := (hI.2.1 k b hk hbP).1
    by_cases c : R a k < 100
    · have bt : ∀ (d : Nat) (Q' : jQ), Q' (some (.int (nI (R k b)))) ν → jC (d + 1) 96 [.ref o, .int (nI k), .int (nI b)] ν Q' := fun d Q' kk => sq_between ho hWν h8 q0' hD hk hbP (by rw [ekb]; exact kk)
      have sh : ∀ (d : Nat) (Q' : jQ), (∀ ξ, jFr [o + 10] ν ξ → jDs T o ξ (fUp R' a b (R a k + R k b)) → Q' none ξ) → jC (d + 1) 95 [.ref o, .int (nI a), .int (nI b), .int (nI (R a k + R k b))] ν Q' := fun d Q' kk => sq_shorten ho hWν h8 q0' hD ha hbP (by omega) (by rw [eab]; exact bab) kk
      have k2 := fun ξ (G : jFr [o + 10] ν ξ) hD2 => ih (b + 1) ξ (fUp R' a b (R a k + R k b)) (by omega) (hF.trans G) hD2 (fun x y hx hy => by
        unfold fUp
        by_cases e : x = a ∧ y = b
        · obtain ⟨rfl, rfl⟩ := e
          rw [if_pos ⟨rfl, rfl⟩, eab, if_pos (show x < x ∨ x = x ∧ y < y + 1 by omega)]
          rfl
        · rw [if_neg e, hS x y hx hy]
          by_cases c2 : x < a ∨ x = a ∧ y < b
          · rw [if_pos c2, if_pos (by omega)]
          · rw [if_neg c2, if_neg (by omega)])
      refine b94_108 ?_
      repeat' (first | refine b94_2 ?_ | refine b94_28 ?_ | refine b94_30 ?_ | refine b94_37 ?_ | refine b94_39 ?_ | refine b94_49 ?_ | refine b94_72 ?_ | refine b94_78 ?_ | refine b94_80 ?_ | refine b94_151 ?_ | refine b94_157 ?_ | refine bt _ _ ?_ | refine sh _ _ (fun ξ G hD2 => ?_) | dsimp only [jb_e0, jb_ec, jb_n, jb_c, jx_op, j1i_c, j2i_c, j1l_c, j2l_c, jil_c, j1r_c, jri_c, jrii_c, jril_c, jrl_c, jrr_c, j2i'_c, jdup_i, jdup_r, jdup2_c, jdup2_l, jpo_c, jli, jll, jlr, jat_0, jat_s, jst, jst2, jkill_i, jkill_r, jkill_l, jkill_n, jnone, jgv_0, jgv_1, jgv_2, jgv_3, jrv_s, jput_0, jput_1, jput_2, jput_3, jpop_0, jpop_1, jcl_s, jc1, jc2, jvi, Nat.reduceAdd, jol_i, jol_l, jol_n, jap_n, jap_c, List.map_cons, List.map_nil, List.sum_cons, List.sum_nil, jcI, jcL, jcR, gI_sI, gI_sL, gI_sR, gL_sI, gL_sL, gL_sR, gR_sI, gR_sL, gR_sR, gS_sI, gS_sL, gS_sR, gN_sI, gN_sL, gN_sR] | simp (disch := omega) only [Nat.zero_le, true_and, and_true, and_self, Nat.reduceLeDiff, true_or, or_true, false_or, or_false, Nat.reduceEqDiff, false_and, and_false, if_false, if_true, reduceIte, not_true_eq_false, not_false_eq_true, true_imp_iff, false_imp_iff, List.map_cons, List.map_nil, List.sum_cons, List.sum_nil, jcI, jcL, jcR, Nat.reduceAdd, jrv_s, j1r_c, jap_n, jap_c, gI_sI, gL_sL, gI_sL, gL_sI, an_lt, an_le, an_eq, an_lt0, an_0le, an_0lt, an_le0, an_eq0, an_eq1, an_1lt, an_le1, an_1le, an_lt1, an_eqm, an_sub, an_sub1, an_div, an_rem, an_in, an_in0, an_in1, an_cl, an_cl0, an_cl1, nI_add, nI_1, an_1a, pk_mul, Nat.reduceMul, jz10, jz01, j00, j11, jb0, Classical.not_not, eq_self, an_ite, an_of, an_nm, nI_l, lN_add, lN_mul, lN_i, lj_2, lj_3, lj_4, lj_5, lj_6, lj_7, lj_8, lj_9, lj_10, lj_11, lj_12, lj_13, lj_14, lj_15, lj_16, lj_17, lj_18, lj_19, lj_20, lj_21, lj_22, lj_23, lj_24, lj_25, lj_26, lj_27, lj_28, lj_29, lj_30, lj_31, lj_32, lj_33, lj_34, lj_35, lj_36, lj_37, lj_38, lj_39, lj_40, lj_48, lj_50, lj_57, lj_59, lj_60, lj_63, lj_64, lj_65, lj_90, lj_96, lj_97, lj_99, lj_100, lj_101, lj_105, lj_112, lj_114, lj_116, lj_119, lj_122, lj_128, lj_200, lj_255, lj_256, lj_500, lj_777, lj_1000, hWν.1, s.1, s.2, q0'] | (refine br_c (fun _ => ?_) (fun _ => ?_) <;> try (exfalso; omega)) | (refine br_d (fun _ => ?_) (fun _ => ?_) <;> try (exfalso; omega)) | refine And.intro ?_ ?_ | (refine Nat.ne_of_gt ?_; omega))
      all_goals exact k2 ξ G hD2
    · have eth : R a k = 100 := by omega
      have k2 := h ν R' (some (.int (nI b))) hF hD (fun x y hx hy => by
        rw [hS x y hx hy]
        by_cases c2 : x < a ∨ x = a ∧ y < b
        · rw [if_pos c2, if_pos (by omega)]
        · rw [if_neg c2]
          by_cases c3 : x = a
          · subst c3
            rw [if_pos (by omega)]
            unfold fWd
            have := (hI.2.1 x y hx hy).1
            rw [if_neg (by omega)]
          · rw [if_neg (by omega)])
      refine b94_108 ?_
      repeat' (first | refine b94_2 ?_ | refine b94_28 ?_ | refine b94_30 ?_ | refine b94_37 ?_ | refine b94_39 ?_ | refine b94_49 ?_ | refine b94_72 ?_ | refine b94_78 ?_ | refine b94_80 ?_ | refine b94_151 ?_ | refine b94_157 ?_ | dsimp only [jb_e0, jb_ec, jb_n, jb_c, jx_op, j1i_c, j2i_c, j1l_c, j2l_c, jil_c, j1r_c, jri_c, jrii_c, jril_c, jrl_c, jrr_c, j2i'_c, jdup_i, jdup_r, jdup2_c, jdup2_l, jpo_c, jli, jll, jlr, jat_0, jat_s, jst, jst2, jkill_i, jkill_r, jkill_l, jkill_n, jnone, jgv_0, jgv_1, jgv_2, jgv_3, jrv_s, jput_0, jput_1, jput_2, jput_3, jpop_0, jpop_1, jcl_s, jc1, jc2, jvi, Nat.reduceAdd, jol_i, jol_l, jol_n, jap_n, jap_c, List.map_cons, List.map_nil, List.sum_cons, List.sum_nil, jcI, jcL, jcR, gI_sI, gI_sL, gI_sR, gL_sI, gL_sL, gL_sR, gR_sI, gR_sL, gR_sR, gS_sI, gS_sL, gS_sR, gN_sI, gN_sL, gN_sR] | simp (disch := omega) only [Nat.zero_le, true_and, and_true, and_self, Nat.reduceLeDiff, true_or, or_true, false_or, or_false, Nat.reduceEqDiff, false_and, and_false, if_false, if_true, reduceIte, not_true_eq_false, not_false_eq_true, true_imp_iff, false_imp_iff, List.map_cons, List.map_nil, List.sum_cons, List.sum_nil, jcI, jcL, jcR, Nat.reduceAdd, jrv_s, j1r_c, jap_n, jap_c, gI_sI, gL_sL, gI_sL, gL_sI, an_lt, an_le, an_eq, an_lt0, an_0le, an_0lt, an_le0, an_eq0, an_eq1, an_1lt, an_le1, an_1le, an_lt1, an_eqm, an_sub, an_sub1, an_div, an_rem, an_in, an_in0, an_in1, an_cl, an_cl0, an_cl1, nI_add, nI_1, an_1a, pk_mul, Nat.reduceMul, jz10, jz01, j00, j11, jb0, Classical.not_not, eq_self, an_ite, an_of, an_nm, nI_l, lN_add, lN_mul, lN_i, lj_2, lj_3, lj_4, lj_5, lj_6, lj_7, lj_8, lj_9, lj_10, lj_11, lj_12, lj_13, lj_14, lj_15, lj_16, lj_17, lj_18, lj_19, lj_20, lj_21, lj_22, lj_23, lj_24, lj_25, lj_26, lj_27, lj_28, lj_29, lj_30, lj_31, lj_32, lj_33, lj_34, lj_35, lj_36, lj_37, lj_38, lj_39, lj_40, lj_48, lj_50, lj_57, lj_59, lj_60, lj_63, lj_64, lj_65, lj_90, lj_96, lj_97, lj_99, lj_100, lj_101, lj_105, lj_112, lj_114, lj_116, lj_119, lj_122, lj_128, lj_200, lj_255, lj_256, lj_500, lj_777, lj_1000, hWν.1, s.1, s.2, q0'] | (refine br_c (fun _ => ?_) (fun _ => ?_) <;> try (exfalso; omega)) | (refine br_d (fun _ => ?_) (fun _ => ?_) <;> try (exfalso; omega)) | refine And.intro ?_ ?_ | (refine Nat.ne_of_gt ?_; omega))
      all_goals exact k2
theorem fw_mid {k : Nat} {R : Nat → Nat → Nat} (ho : jTO o) (hW : jWd L t μ) (hK : jTok T) (q0 : gI μ o 0 = nI (tP T)) (hk : k < tP T) (hI : fWI T R k) (h : ∀ ν R' z2 z3 z4, jFr [o + 10] μ ν → jDs T o ν R' → fWI T R' (k + 1) → jR (d + 3) 94 151 [some (.ref o), some (.int (nI k)), z2, z3, z4] [] (0, 0) ν Q) : ∀ (n a : Nat) (ν : jMem) (R' : Nat → Nat → Nat) (z3 z4 : Option Value), a + n = tP T → jFr [o + 10] μ ν → jDs T o ν R' → fS T R R' k a 0 → jR (d + 3) 94 90 [some (.ref o), some (.int (nI k)), some (.int (nI a)), z3, z4] [] (0, 0) ν Q := by
  have h8 := hK.1.1
  have hkk := hI.1 k hk
  intro n
  induction n with
  | zero =>
    intro a ν R' z3 z4 ha hF hD hS
    obtain rfl : a = tP T := by omega
    have hWν := hF.wd hW
    have s := jWo ho hWν
    have q0' := ((hF.1 o (by simp)).1 0).trans q0
    have e : ∀ x y, x < tP T → y < tP T → R' x y = fWd R k x y := fun x y hx hy => by rw [hS x y hx hy, if_pos (Or.inl hx)]
    have hI2 := fWI_step hK hk hI
    have hI3 : fWI T R' (k + 1) := ⟨fun x hx => by rw [e x x hx hx]; exact hI2.1 x hx, fun x y hx hy => by rw [e x y hx hy]; exact hI2.2.1 x y hx hy, fun x s hx hs => by rw [e x _ hx (tA_lt hK hx)]; exact hI2.2.2.1 x s hx hs, fun c hc x y hx hy => by rw [e x y hx hy, e x c hx (by omega), e c y (by omega) hy]; exact hI2.2.2.2 c hc x y hx hy⟩
    have k2 := h ν R' (some (.int (nI (tP T)))) z3 z4 hF hD hI3
    refine b94_90 ?_
    repeat' (first | refine b94_2 ?_ | refine b94_28 ?_ | refine b94_30 ?_ | refine b94_37 ?_ | refine b94_39 ?_ | refine b94_49 ?_ | refine b94_72 ?_ | refine b94_78 ?_ | refine b94_80 ?_ | refine b94_145 ?_ | refine b94_157 ?_ | dsimp only [jb_e0, jb_ec, jb_n, jb_c, jx_op, j1i_c, j2i_c, j1l_c, j2l_c, jil_c, j1r_c, jri_c, jrii_c, jril_c, jrl_c, jrr_c, j2i'_c, jdup_i, jdup_r, jdup2_c, jdup2_l, jpo_c, jli, jll, jlr, jat_0, jat_s, jst, jst2, jkill_i, jkill_r, jkill_l, jkill_n, jnone, jgv_0, jgv_1, jgv_2, jgv_3, jrv_s, jput_0, jput_1, jput_2, jput_3, jpop_0, jpop_1, jcl_s, jc1, jc2, jvi, Nat.reduceAdd, jol_i, jol_l, jol_n, jap_n, jap_c, List.map_cons, List.map_nil, List.sum_cons, List.sum_nil, jcI, jcL, jcR, gI_sI, gI_sL, gI_sR, gL_sI, gL_sL, gL_sR, gR_sI, gR_sL, gR_sR, gS_sI, gS_sL, gS_sR, gN_sI, gN_sL, gN_sR] | simp (disch := omega) only [Nat.zero_le, true_and, and_true, and_self, Nat.reduceLeDiff, true_or, or_true, false_or, or_false, Nat.reduceEqDiff, false_and, and_false, if_false, if_true, reduceIte, not_true_eq_false, not_false_eq_true, true_imp_iff, false_imp_iff, List.map_cons, List.map_nil, List.sum_cons, List.sum_nil, jcI, jcL, jcR, Nat.reduceAdd, jrv_s, j1r_c, jap_n, jap_c, gI_sI, gL_sL, gI_sL, gL_sI, an_lt, an_le, an_eq, an_lt0, an_0le, an_0lt, an_le0, an_eq0, an_eq1, an_1lt, an_le1, an_1le, an_lt1, an_eqm, an_sub, an_sub1, an_div, an_rem, an_in, an_in0, an_in1, an_cl, an_cl0, an_cl1, nI_add, nI_1, an_1a, pk_mul, Nat.reduceMul, jz10, jz01, j00, j11, jb0, Classical.not_not, eq_self, an_ite, an_of, an_nm, nI_l, lN_add, lN_mul, lN_i, lj_2, lj_3, lj_4, lj_5, lj_6, lj_7, lj_8, lj_9, lj_10, lj_11, lj_12, lj_13, lj_14, lj_15, lj_16, lj_17, lj_18, lj_19, lj_20, lj_21, lj_22, lj_23, lj_24, lj_25, lj_26, lj_27, lj_28, lj_29, lj_30, lj_31, lj_32, lj_33, lj_34, lj_35, lj_36, lj_37, lj_38, lj_39, lj_40, lj_48, lj_50, lj_57, lj_59, lj_60, lj_63, lj_64, lj_65, lj_90, lj_96, lj_97, lj_99, lj_100, lj_101, lj_105, lj_112, lj_114, lj_116, lj_119, lj_122, lj_128, lj_200, lj_255, lj_256, lj_500, lj_777, lj_1000, hWν.1, s.1, s.2, q0'] | (refine br_c (fun _ => ?_) (fun _ => ?_) <;> try (exfalso; omega)) | (refine br_d (fun _ => ?_) (fun _ => ?_) <;> try (exfalso; omega)) | refine And.intro ?_ ?_ | (refine Nat.ne_of_gt ?_; omega))
    all_goals exact k2
  | succ n ih =>
    intro a ν R' z3 z4 ha hF hD hS
    have haP : a < tP T := by omega
    have hWν := hF.wd hW
    have s := jWo ho hWν
    have q0' := ((hF.1 o (by simp)).1 0).trans q0
    have eak : R' a k = R a k := by
      rw [hS a k haP hk, if_neg (by omega)]
    have bt : ∀ (d : Nat) (Q' : jQ), Q' (some (.int (nI (R a k)))) ν → jC (d + 1) 96 [.ref o, .int (nI a), .int (nI k)] ν Q' := fun d Q' kk => sq_between ho hWν h8 q0' hD haP hk (by rw [eak]; exact kk)
    have k2 := fw_in (d := d) (Q := Q) ho hWν hK q0' hk haP hI (fun ν2 R2 z F2 hD2 hS2 => by
      have hW2 := F2.wd hWν
      have k3 := ih (a + 1) ν2 R2 (some (.int (nI (R a k)))) z (by omega) (hF.trans F2) hD2 hS2
      refine b94_145 ?_
      repeat' (first | refine b94_2 ?_ | refine b94_28 ?_ | refine b94_30 ?_ | refine b94_37 ?_ | refine b94_39 ?_ | refine b94_49 ?_ | refine b94_72 ?_ | refine b94_78 ?_ | refine b94_80 ?_ | refine b94_157 ?_ | dsimp only [jb_e0, jb_ec, jb_n, jb_c, jx_op, j1i_c, j2i_c, j1l_c, j2l_c, jil_c, j1r_c, jri_c, jrii_c, jril_c, jrl_c, jrr_c, j2i'_c, jdup_i, jdup_r, jdup2_c, jdup2_l, jpo_c, jli, jll, jlr, jat_0, jat_s, jst, jst2, jkill_i, jkill_r, jkill_l, jkill_n, jnone, jgv_0, jgv_1, jgv_2, jgv_3, jrv_s, jput_0, jput_1, jput_2, jput_3, jpop_0, jpop_1, jcl_s, jc1, jc2, jvi, Nat.reduceAdd, jol_i, jol_l, jol_n, jap_n, jap_c, List.map_cons, List.map_nil, List.sum_cons, List.sum_nil, jcI, jcL, jcR, gI_sI, gI_sL, gI_sR, gL_sI, gL_sL, gL_sR, gR_sI, gR_sL, gR_sR, gS_sI, gS_sL, gS_sR, gN_sI, gN_sL, gN_sR] | simp (disch := omega) only [Nat.zero_le, true_and, and_true, and_self, Nat.reduceLeDiff, true_or, or_true, false_or, or_false, Nat.reduceEqDiff, false_and, and_false, if_false, if_true, reduceIte, not_true_eq_false, not_false_eq_true, true_imp_iff, false_imp_iff, List.map_cons, List.map_nil, List.sum_cons, List.sum_nil, jcI, jcL, jcR, Nat.reduceAdd, jrv_s, j1r_c, jap_n, jap_c, gI_sI, gL_sL, gI_sL, gL_sI, an_lt, an_le, an_eq, an_lt0, an_0le, an_0lt, an_le0, an_eq0, an_eq1, an_1lt, an_le1, an_1le, an_lt1, an_eqm, an_sub, an_sub1, an_div, an_rem, an_in, an_in0, an_in1, an_cl, an_cl0, an_cl1, nI_add, nI_1, an_1a, pk_mul, Nat.reduceMul, jz10, jz01, j00, j11, jb0, Classical.not_not, eq_self, an_ite, an_of, an_nm, nI_l, lN_add, lN_mul, lN_i, lj_2, lj_3, lj_4, lj_5, lj_6, lj_7, lj_8, lj_9, lj_10, lj_11, lj_12, lj_13, lj_14, lj_15, lj_16, lj_17, lj_18, lj_19, lj_20, lj_21, lj_22, lj_23, lj_24, lj_25, lj_26, lj_27, lj_28, lj_29, lj_30, lj_31, lj_32, lj_33, lj_34, lj_35, lj_36, lj_37, lj_38, lj_39, lj_40, lj_48, lj_50, lj_57, lj_59, lj_60, lj_63, lj_64, lj_65, lj_90, lj_96, lj_97, lj_99, lj_100, lj_101, lj_105, lj_112, lj_114, lj_116, lj_119, lj_122, lj_128, lj_200, lj_255, lj_256, lj_500, lj_777, lj_1000, hW2.1] | (refine br_c (fun _ => ?_) (fun _ => ?_) <;> try (exfalso; omega)) | (refine br_d (fun _ => ?_) (fun _ => ?_) <;> try (exfalso; omega)) | refine And.intro ?_ ?_ | (refine Nat.ne_of_gt ?_; omega))
      all_goals exact k3) (tP T) 0 ν R' (by omega) jFr.rf hD hS
    refine b94_90 ?_
    repeat' (first | refine b94_2 ?_ | refine b94_28 ?_ | refine b94_30 ?_ | refine b94_37 ?_ | refine b94_39 ?_ | refine b94_49 ?_ | refine b94_72 ?_ | refine b94_78 ?_ | refine b94_80 ?_ | refine b94_157 ?_ | refine bt _ _ ?_ | dsimp only [jb_e0, jb_ec, jb_n, jb_c, jx_op, j1i_c, j2i_c, j1l_c, j2l_c, jil_c, j1r_c, jri_c, jrii_c, jril_c, jrl_c, jrr_c, j2i'_c, jdup_i, jdup_r, jdup2_c, jdup2_l, jpo_c, jli, jll, jlr, jat_0, jat_s, jst, jst2, jkill_i, jkill_r, jkill_l, jkill_n, jnone, jgv_0, jgv_1, jgv_2, jgv_3, jrv_s, jput_0, jput_1, jput_2, jput_3, jpop_0, jpop_1, jcl_s, jc1, jc2, jvi, Nat.reduceAdd, jol_i, jol_l, jol_n, jap_n, jap_c, List.map_cons, List.map_nil, List.sum_cons, List.sum_nil, jcI, jcL, jcR, gI_sI, gI_sL, gI_sR, gL_sI, gL_sL, gL_sR, gR_sI, gR_sL, gR_sR, gS_sI, gS_sL, gS_sR, gN_sI, gN_sL, gN_sR] | simp (disch := omega) only [Nat.zero_le, true_and, and_true, and_self, Nat.reduceLeDiff, true_or, or_true, false_or, or_false, Nat.reduceEqDiff, false_and, and_false, if_false, if_true, reduceIte, not_true_eq_false, not_false_eq_true, true_imp_iff, false_imp_iff, List.map_cons, List.map_nil, List.sum_cons, List.sum_nil, jcI, jcL, jcR, Nat.reduceAdd, jrv_s, j1r_c, jap_n, jap_c, gI_sI, gL_sL, gI_sL, gL_sI, an_lt, an_le, an_eq, an_lt0, an_0le, an_0lt, an_le0, an_eq0, an_eq1, an_1lt, an_le1, an_1le, an_lt1, an_eqm, an_sub, an_sub1, an_div, an_rem, an_in, an_in0, an_in1, an_cl, an_cl0, an_cl1, nI_add, nI_1, an_1a, pk_mul, Nat.reduceMul, jz10, jz01, j00, j11, jb0, Classical.not_not, eq_self, an_ite, an_of, an_nm, nI_l, lN_add, lN_mul, lN_i, lj_2, lj_3, lj_4, lj_5, lj_6, lj_7, lj_8, lj_9, lj_10, lj_11, lj_12, lj_13, lj_14, lj_15, lj_16, lj_17, lj_18, lj_19, lj_20, lj_21, lj_22, lj_23, lj_24, lj_25, lj_26, lj_27, lj_28, lj_29, lj_30, lj_31, lj_32, lj_33, lj_34, lj_35, lj_36, lj_37, lj_38, lj_39, lj_40, lj_48, lj_50, lj_57, lj_59, lj_60, lj_63, lj_64, lj_65, lj_90, lj_96, lj_97, lj_99, lj_100, lj_101, lj_105, lj_112, lj_114, lj_116, lj_119, lj_122, lj_128, lj_200, lj_255, lj_256, lj_500, lj_777, lj_1000, hWν.1, s.1, s.2, q0'] | (refine br_c (fun _ => ?_) (fun _ => ?_) <;> try (exfalso; omega)) | (refine br_d (fun _ => ?_) (fun _ => ?_) <;> try (exfalso; omega)) | refine And.intro ?_ ?_ | (refine Nat.ne_of_gt ?_; omega))
    all_goals exact k2
theorem fw_all {R0 : Nat → Nat → Nat} (ho : jTO o) (hW : jWd L t μ) (hK : jTok T) (q0 : gI μ o 0 = nI (tP T)) (hD0 : jDs T o μ R0) (hI0 : fWI T R0 0) (h : ∀ ν, jFr [o + 10] μ ν → jDs T o ν (tDi T) → Q none ν) (z1 z2 : Option Value) : jR (d + 3) 94 78 [some (.ref o), some (.int (nI (tP T))), z1, z2, none] [] (0, 0) μ Q := by
  have h8 := hK.1.1
  have key : ∀ (n k : Nat) (ν : jMem) (R : Nat → Nat → Nat) (z2 z3 z4 : Option Value), k + n = tP T → jFr [o + 10] μ ν → jDs T o ν R → fWI T R k → jR (d + 3) 94 80 [some (.ref o), some (.int (nI k)), z2, z3, z4] [] (0, 0) ν Q := by
    intro n
    induction n with
    | zero =>
      intro k ν R z2 z3 z4 hk hF hD hI
      obtain rfl : k = tP T := by omega
      have hWν := hF.wd hW
      have s := jWo ho hWν
      have q0' := ((hF.1 o (by simp)).1 0).trans q0
      have k2 := h ν hF (fun x y hx hy => by rw [hD x y hx hy, fWI_end hK hI hx hy])
      refine b94_80 ?_
      repeat' (first | refine b94_2 ?_ | refine b94_28 ?_ | refine b94_30 ?_ | refine b94_37 ?_ | refine b94_39 ?_ | refine b94_49 ?_ | refine b94_72 ?_ | refine b94_78 ?_ | refine b94_108 ?_ | refine b94_145 ?_ | refine b94_151 ?_ | refine b94_157 ?_ | dsimp only [jb_e0, jb_ec, jb_n, jb_c, jx_op, j1i_c, j2i_c, j1l_c, j2l_c, jil_c, j1r_c, jri_c, jrii_c, jril_c, jrl_c, jrr_c, j2i'_c, jdup_i, jdup_r, jdup2_c, jdup2_l, jpo_c, jli, jll, jlr, jat_0, jat_s, jst, jst2, jkill_i, jkill_r, jkill_l, jkill_n, jnone, jgv_0, jgv_1, jgv_2, jgv_3, jrv_s, jput_0, jput_1, jput_2, jput_3, jpop_0, jpop_1, jcl_s, jc1, jc2, jvi, Nat.reduceAdd, jol_i, jol_l, jol_n, jap_n, jap_c, List.map_cons, List.map_nil, List.sum_cons, List.sum_nil, jcI, jcL, jcR, gI_sI, gI_sL, gI_sR, gL_sI, gL_sL, gL_sR, gR_sI, gR_sL, gR_sR, gS_sI, gS_sL, gS_sR, gN_sI, gN_sL, gN_sR] | simp (disch := omega) only [Nat.zero_le, true_and, and_true, and_self, Nat.reduceLeDiff, true_or, or_true, false_or, or_false, Nat.reduceEqDiff, false_and, and_false, if_false, if_true, reduceIte, not_true_eq_false, not_false_eq_true, true_imp_iff, false_imp_iff, List.map_cons, List.map_nil, List.sum_cons, List.sum_nil, jcI, jcL, jcR, Nat.reduceAdd, jrv_s, j1r_c, jap_n, jap_c, gI_sI, gL_sL, gI_sL, gL_sI, an_lt, an_le, an_eq, an_lt0, an_0le, an_0lt, an_le0, an_eq0, an_eq1, an_1lt, an_le1, an_1le, an_lt1, an_eqm, an_sub, an_sub1, an_div, an_rem, an_in, an_in0, an_in1, an_cl, an_cl0, an_cl1, nI_add, nI_1, an_1a, pk_mul, Nat.reduceMul, jz10, jz01, j00, j11, jb0, Classical.not_not, eq_self, an_ite, an_of, an_nm, nI_l, lN_add, lN_mul, lN_i, lj_2, lj_3, lj_4, lj_5, lj_6, lj_7, lj_8, lj_9, lj_10, lj_11, lj_12, lj_13, lj_14, lj_15, lj_16, lj_17, lj_18, lj_19, lj_20, lj_21, lj_22, lj_23, lj_24, lj_25, lj_26, lj_27, lj_28, lj_29, lj_30, lj_31, lj_32, lj_33, lj_34, lj_35, lj_36, lj_37, lj_38, lj_39, lj_40, lj_48, lj_50, lj_57, lj_59, lj_60, lj_63, lj_64, lj_65, lj_90, lj_96, lj_97, lj_99, lj_100, lj_101, lj_105, lj_112, lj_114, lj_116, lj_119, lj_122, lj_128, lj_200, lj_255, lj_256, lj_500, lj_777, lj_1000, hWν.1, s.1, s.2, q0'] | (refine br_c (fun _ => ?_) (fun _ => ?_) <;> try (exfalso; omega)) | (refine br_d (fun _ => ?_) (fun _ => ?_) <;> try (exfalso; omega)) | refine And.intro ?_ ?_ | (refine Nat.ne_of_gt ?_; omega))
      all_goals exact k2
    | succ n ih =>
      intro k ν R z2 z3 z4 hk hF hD hI
      have hkP : k < tP T := by omega
      have hWν := hF.wd hW
      have s := jWo ho hWν
      have q0' := ((hF.1 o (by simp)).1 0).trans q0
      have k2 := fw_mid (d := d) (Q := Q) ho hWν hK q0' hkP hI (fun ν2 R2 y2 y3 y4 F2 hD2 hI2 => by
        have hW2 := F2.wd hWν
        have k3 := ih (k + 1) ν2 R2 y2 y3 y4 (by omega) (hF.trans F2) hD2 hI2
        refine b94_151 ?_
        repeat' (first | refine b94_2 ?_ | refine b94_28 ?_ | refine b94_30 ?_ | refine b94_37 ?_ | refine b94_39 ?_ | refine b94_49 ?_ | refine b94_72 ?_ | refine b94_78 ?_ | refine b94_108 ?_ | refine b94_145 ?_ | refine b94_157 ?_ | dsimp only [jb_e0, jb_ec, jb_n, jb_c, jx_op, j1i_c, j2i_c, j1l_c, j2l_c, jil_c, j1r_c, jri_c, jrii_c, jril_c, jrl_c, jrr_c, j2i'_c, jdup_i, jdup_r, jdup2_c, jdup2_l, jpo_c, jli, jll, jlr, jat_0, jat_s, jst, jst2, jkill_i, jkill_r, jkill_l, jkill_n, jnone, jgv_0, jgv_1, jgv_2, jgv_3, jrv_s, jput_0, jput_1, jput_2, jput_3, jpop_0, jpop_1, jcl_s, jc1, jc2, jvi, Nat.reduceAdd, jol_i, jol_l, jol_n, jap_n, jap_c, List.map_cons, List.map_nil, List.sum_cons, List.sum_nil, jcI, jcL, jcR, gI_sI, gI_sL, gI_sR, gL_sI, gL_sL, gL_sR, gR_sI, gR_sL, gR_sR, gS_sI, gS_sL, gS_sR, gN_sI, gN_sL, gN_sR] | simp (disch := omega) only [Nat.zero_le, true_and, and_true, and_self, Nat.reduceLeDiff, true_or, or_true, false_or, or_false, Nat.reduceEqDiff, false_and, and_false, if_false, if_true, reduceIte, not_true_eq_false, not_false_eq_true, true_imp_iff, false_imp_iff, List.map_cons, List.map_nil, List.sum_cons, List.sum_nil, jcI, jcL, jcR, Nat.reduceAdd, jrv_s, j1r_c, jap_n, jap_c, gI_sI, gL_sL, gI_sL, gL_sI, an_lt, an_le, an_eq, an_lt0, an_0le, an_0lt, an_le0, an_eq0, an_eq1, an_1lt, an_le1, an_1le, an_lt1, an_eqm, an_sub, an_sub1, an_div, an_rem, an_in, an_in0, an_in1, an_cl, an_cl0, an_cl1, nI_add, nI_1, an_1a, pk_mul, Nat.reduceMul, jz10, jz01, j00, j11, jb0, Classical.not_not, eq_self, an_ite, an_of, an_nm, nI_l, lN_add, lN_mul, lN_i, lj_2, lj_3, lj_4, lj_5, lj_6, lj_7, lj_8, lj_9, lj_10, lj_11, lj_12, lj_13, lj_14, lj_15, lj_16, lj_17, lj_18, lj_19, lj_20, lj_21, lj_22, lj_23, lj_24, lj_25, lj_26, lj_27, lj_28, lj_29, lj_30, lj_31, lj_32, lj_33, lj_34, lj_35, lj_36, lj_37, lj_38, lj_39, lj_40, lj_48, lj_50, lj_57, lj_59, lj_60, lj_63, lj_64, lj_65, lj_90, lj_96, lj_97, lj_99, lj_100, lj_101, lj_105, lj_112, lj_114, lj_116, lj_119, lj_122, lj_128, lj_200, lj_255, lj_256, lj_500, lj_777, lj_1000, hW2.1] | (refine br_c (fun _ => ?_) (fun _ => ?_) <;> try (exfalso; omega)) | (refine br_d (fun _ => ?_) (fun _ => ?_) <;> try (exfalso; omega)) | refine And.intro ?_ ?_ | (refine Nat.ne_of_gt ?_; omega))
        all_goals exact k3) (tP T) 0 ν R z3 z4 (by omega) jFr.rf hD (fun x y hx hy => by rw [if_neg (by omega)])
      refine b94_80 ?_
      repeat' (first | refine b94_2 ?_ | refine b94_28 ?_ | refine b94_30 ?_ | refine b94_37 ?_ | refine b94_39 ?_ | refine b94_49 ?_ | refine b94_72 ?_ | refine b94_78 ?_ | refine b94_108 ?_ | refine b94_145 ?_ | refine b94_157 ?_ | dsimp only [jb_e0, jb_ec, jb_n, jb_c, jx_op, j1i_c, j2i_c, j1l_c, j2l_c, jil_c, j1r_c, jri_c, jrii_c, jril_c, jrl_c, jrr_c, j2i'_c, jdup_i, jdup_r, jdup2_c, jdup2_l, jpo_c, jli, jll, jlr, jat_0, jat_s, jst, jst2, jkill_i, jkill_r, jkill_l, jkill_n, jnone, jgv_0, jgv_1, jgv_2, jgv_3, jrv_s, jput_0, jput_1, jput_2, jput_3, jpop_0, jpop_1, jcl_s, jc1, jc2, jvi, Nat.reduceAdd, jol_i, jol_l, jol_n, jap_n, jap_c, List.map_cons, List.map_nil, List.sum_cons, List.sum_nil, jcI, jcL, jcR, gI_sI, gI_sL, gI_sR, gL_sI, gL_sL, gL_sR, gR_sI, gR_sL, gR_sR, gS_sI, gS_sL, gS_sR, gN_sI, gN_sL, gN_sR] | simp (disch := omega) only [Nat.zero_le, true_and, and_true, and_self, Nat.reduceLeDiff, true_or, or_true, false_or, or_false, Nat.reduceEqDiff, false_and, and_false, if_false, if_true, reduceIte, not_true_eq_false, not_false_eq_true, true_imp_iff, false_imp_iff, List.map_cons, List.map_nil, List.sum_cons, List.sum_nil, jcI, jcL, jcR, Nat.reduceAdd, jrv_s, j1r_c, jap_n, jap_c, gI_sI, gL_sL, gI_sL, gL_sI, an_lt, an_le, an_eq, an_lt0, an_0le, an_0lt, an_le0, an_eq0, an_eq1, an_1lt, an_le1, an_1le, an_lt1, an_eqm, an_sub, an_sub1, an_div, an_rem, an_in, an_in0, an_in1, an_cl, an_cl0, an_cl1, nI_add, nI_1, an_1a, pk_mul, Nat.reduceMul, jz10, jz01, j00, j11, jb0, Classical.not_not, eq_self, an_ite, an_of, an_nm, nI_l, lN_add, lN_mul, lN_i, lj_2, lj_3, lj_4, lj_5, lj_6, lj_7, lj_8, lj_9, lj_10, lj_11, lj_12, lj_13, lj_14, lj_15, lj_16, lj_17, lj_18, lj_19, lj_20, lj_21, lj_22, lj_23, lj_24, lj_25, lj_26, lj_27, lj_28, lj_29, lj_30, lj_31, lj_32, lj_33, lj_34, lj_35, lj_36, lj_37, lj_38, lj_39, lj_40, lj_48, lj_50, lj_57, lj_59, lj_60, lj_63, lj_64, lj_65, lj_90, lj_96, lj_97, lj_99, lj_100, lj_101, lj_105, lj_112, lj_114, lj_116, lj_119, lj_122, lj_128, lj_200, lj_255, lj_256, lj_500, lj_777, lj_1000, hWν.1, s.1, s.2, q0'] | (refine br_c (fun _ => ?_) (fun _ => ?_) <;> try (exfalso; omega)) | (refine br_d (fun _ => ?_) (fun _ => ?_) <;> try (exfalso; omega)) | refine And.intro ?_ ?_ | (refine Nat.ne_of_gt ?_; omega))
      all_goals exact k2
  have k2 := key (tP T) 0 μ R0 z1 z2 none (by omega) jFr.rf hD0 hI0
  refine b94_78 ?_
  repeat' (first | refine b94_2 ?_ | refine b94_28 ?_ | refine b94_30 ?_ | refine b94_37 ?_ | refine b94_39 ?_ | refine b94_49 ?_ | refine b94_72 ?_ | refine b94_78 ?_ | refine b94_90 ?_ | refine b94_108 ?_ | refine b94_145 ?_ | refine b94_151 ?_ | refine b94_157 ?_ | dsimp only [jb_e0, jb_ec, jb_n, jb_c, jx_op, j1i_c, j2i_c, j1l_c, j2l_c, jil_c, j1r_c, jri_c, jrii_c, jril_c, jrl_c, jrr_c, j2i'_c, jdup_i, jdup_r, jdup2_c, jdup2_l, jpo_c, jli, jll, jlr, jat_0, jat_s, jst, jst2, jkill_i, jkill_r, jkill_l, jkill_n, jnone, jgv_0, jgv_1, jgv_2, jgv_3, jrv_s, jput_0, jput_1, jput_2, jput_3, jpop_0, jpop_1, jcl_s, jc1, jc2, jvi, Nat.reduceAdd, jol_i, jol_l, jol_n, jap_n, jap_c, List.map_cons, List.map_nil, List.sum_cons, List.sum_nil, jcI, jcL, jcR, gI_sI, gI_sL, gI_sR, gL_sI, gL_sL, gL_sR, gR_sI, gR_sL, gR_sR, gS_sI, gS_sL, gS_sR, gN_sI, gN_sL, gN_sR] | simp (disch := omega) only [Nat.zero_le, true_and, and_true, and_self, Nat.reduceLeDiff, true_or, or_true, false_or, or_false, Nat.reduceEqDiff, false_and, and_false, if_false, if_true, reduceIte, not_true_eq_false, not_false_eq_true, true_imp_iff, false_imp_iff, List.map_cons, List.map_nil, List.sum_cons, List.sum_nil, jcI, jcL, jcR, Nat.reduceAdd, jrv_s, j1r_c, jap_n, jap_c, gI_sI, gL_sL, gI_sL, gL_sI, an_lt, an_le, an_eq, an_lt0, an_0le, an_0lt, an_le0, an_eq0, an_eq1, an_1lt, an_le1, an_1le, an_lt1, an_eqm, an_sub, an_sub1, an_div, an_rem, an_in, an_in0, an_in1, an_cl, an_cl0, an_cl1, nI_add, nI_1, an_1a, pk_mul, Nat.reduceMul, jz10, jz01, j00, j11, jb0, Classical.not_not, eq_self, an_ite, an_of, an_nm, nI_l, lN_add, lN_mul, lN_i, lj_2, lj_3, lj_4, lj_5, lj_6, lj_7, lj_8, lj_9, lj_10, lj_11, lj_12, lj_13, lj_14, lj_15, lj_16, lj_17, lj_18, lj_19, lj_20, lj_21, lj_22, lj_23, lj_24, lj_25, lj_26, lj_27, lj_28, lj_29, lj_30, lj_31, lj_32, lj_33, lj_34, lj_35, lj_36, lj_37, lj_38, lj_39, lj_40, lj_48, lj_50, lj_57, lj_59, lj_60, lj_63, lj_64, lj_65, lj_90, lj_96, lj_97, lj_99, lj_100, lj_101, lj_105, lj_112, lj_114, lj_116, lj_119, lj_122, lj_128, lj_200, lj_255, lj_256, lj_500, lj_777, lj_1000] | (refine br_c (fun _ => ?_) (fun _ => ?_) <;> try (exfalso; omega)) | (refine br_d (fun _ => ?_) (fun _ => ?_) <;> try (exfalso; omega)) | refine And.intro ?_ ?_ | (refine Nat.ne_of_gt ?_; omega))
  all_goals exact k2
end JSE
