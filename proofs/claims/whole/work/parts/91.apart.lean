/-! parted: the class's queue -/
section JPD
variable {d L t : Nat} {μ : jMem} {Q : jQ} {T : jT} {a b : Nat}
def aQ (T : jT) (a b : Nat) (R : Nat → Bool) (qu : Nat → Nat) (n i k : Nat) : Prop := (∀ j, j < n → qu j / 8 < tP T ∧ qu j % 8 < tP T ∧ gRe T a b (qu j / 8) (qu j % 8)) ∧ (∀ j, R j = true → ∃ m, m < n ∧ qu m = j) ∧ R (8 * a + b) = true ∧ n = sCt R 64 ∧ ∀ m s, m < n → 0 < s → s < 5 → (m < i ∨ (m = i ∧ s < k)) → ¬ gMt T (qu m / 8) (qu m % 8) s ∧ R (8 * tA T (qu m / 8) s + tA T (qu m % 8) s) = true
variable {R : Nat → Bool} {qu : Nat → Nat} {n i k P q0 : Nat}
theorem aQ_end (h : aQ T a b R qu n i 5) : aQ T a b R qu n (i + 1) 1 := by
  obtain ⟨h1, h2, h3, h4, h5⟩ := h
  exact ⟨h1, h2, h3, h4, fun m s hm s0 s5 hb => h5 m s hm s0 s5 (by omega)⟩
theorem aQ_seen (h : aQ T a b R qu n i k) (e1 : qu i / 8 = P) (e2 : qu i % 8 = q0) (hm : ¬ gMt T P q0 k) (hx : R (8 * tA T P k + tA T q0 k) = true) : aQ T a b R qu n i (k + 1) := by
  obtain ⟨h1, h2, h3, h4, h5⟩ := h
  refine ⟨h1, h2, h3, h4, fun m s hmn s0 s5 hb => ?_⟩
  by_cases e : m = i ∧ s = k
  · rw [e.1, e.2, e1, e2]
    exact ⟨hm, hx⟩
  · exact h5 m s hmn s0 s5 (by omega)
theorem aQ_lt (hT : jTok T) (h : aQ T a b R qu n i k) (hP : P < tP T) (hq : q0 < tP T) (hx : R (8 * tA T P k + tA T q0 k) = false) : n < 64 := by
  have h8 := hT.1.1
  have hx1 := tA_lt (s := k) hT hP
  have hx2 := tA_lt (s := k) hT hq
  have hc := sCt_up (g := fun i => if i = 8 * tA T P k + tA T q0 k then true else R i) hx (fun _ => rfl) 64
  rw [if_pos (by omega)] at hc
  have := sCt_le (fun i => if i = 8 * tA T P k + tA T q0 k then true else R i) 64
  have := h.2.2.2.1
  omega
theorem aQ_new (hT : jTok T) (h : aQ T a b R qu n i k) (hin : i < n) (e1 : qu i / 8 = P) (e2 : qu i % 8 = q0) (k0 : 0 < k) (k5 : k < 5) (hm : ¬ gMt T P q0 k) (hx : R (8 * tA T P k + tA T q0 k) = false) : aQ T a b (fun j => if j = 8 * tA T P k + tA T q0 k then true else R j) (fun j => if j = n then 8 * tA T P k + tA T q0 k else qu j) (n + 1) i (k + 1) := by
  obtain ⟨h1, h2, h3, h4, h5⟩ := h
  have h8 := hT.1.1
  have hi := h1 i hin
  rw [e1, e2] at hi
  have hx1 := tA_lt (s := k) hT hi.1
  have hx2 := tA_lt (s := k) hT hi.2.1
  have hg := gRe_s hi.2.2 k0 k5
  have hc := sCt_up (g := fun i => if i = 8 * tA T P k + tA T q0 k then true else R i) hx (fun _ => rfl) 64
  rw [if_pos (by omega)] at hc
  refine ⟨fun j hj => ?_, fun j hj => ?_, ?_, by omega, fun m s hmn s0 s5 hb => ?_⟩
  · by_cases e : j = n
    · have f1 : (8 * tA T P k + tA T q0 k) / 8 = tA T P k := by omega
      have f2 : (8 * tA T P k + tA T q0 k) % 8 = tA T q0 k := by omega
      show (if j = n then 8 * tA T P k + tA T q0 k else qu j) / 8 < tP T ∧ (if j = n then 8 * tA T P k + tA T q0 k else qu j) % 8 < tP T ∧ gRe T a b ((if j = n then 8 * tA T P k + tA T q0 k else qu j) / 8) ((if j = n then 8 * tA T P k + tA T q0 k else qu j) % 8)
      rw [if_pos e, f1, f2]
      exact ⟨hx1, hx2, hg⟩
    · show (if j = n then 8 * tA T P k + tA T q0 k else qu j) / 8 < tP T ∧ (if j = n then 8 * tA T P k + tA T q0 k else qu j) % 8 < tP T ∧ gRe T a b ((if j = n then 8 * tA T P k + tA T q0 k else qu j) / 8) ((if j = n then 8 * tA T P k + tA T q0 k else qu j) % 8)
      rw [if_neg e]
      exact h1 j (by omega)
  · by_cases e : j = 8 * tA T P k + tA T q0 k
    · exact ⟨n, by omega, by rw [e]; exact if_pos rfl⟩
    · have hj : (if j = 8 * tA T P k + tA T q0 k then true else R j) = true := hj
      rw [if_neg e] at hj
      obtain ⟨m, m1, m2⟩ := h2 j hj
      exact ⟨m, by omega, (if_neg (by omega)).trans m2⟩
  · show (if 8 * a + b = 8 * tA T P k + tA T q0 k then true else R (8 * a + b)) = true
    rw [h3]
    exact ite_self true
  · have hmn2 : m < n := by omega
    show ¬ gMt T ((if m = n then 8 * tA T P k + tA T q0 k else qu m) / 8) ((if m = n then 8 * tA T P k + tA T q0 k else qu m) % 8) s ∧ (if 8 * tA T ((if m = n then 8 * tA T P k + tA T q0 k else qu m) / 8) s + tA T ((if m = n then 8 * tA T P k + tA T q0 k else qu m) % 8) s = 8 * tA T P k + tA T q0 k then true else R (8 * tA T ((if m = n then 8 * tA T P k + tA T q0 k else qu m) / 8) s + tA T ((if m = n then 8 * tA T P k + tA T q0 k else qu m) % 8) s)) = true
    rw [if_neg (show ¬ m = n by omega)]
    by_cases e : m = i ∧ s = k
    · rw [e.1, e.2, e1, e2, if_pos rfl]
      exact ⟨hm, rfl⟩
    · obtain ⟨y1, y2⟩ := h5 m s hmn2 s0 s5 (by omega)
      refine ⟨y1, ?_⟩
      rw [y2]
      exact ite_self true
theorem aQ_fin (hT : jTok T) (ha : a < tP T) (hb : b < tP T) (h : aQ T a b R qu n i 1) (hn : n ≤ i) : ¬ gBr T a b := by
  obtain ⟨h1, h2, h3, h4, h5⟩ := h
  have h8 := hT.1.1
  have key : ∀ p q s, p < tP T ∧ q < tP T ∧ R (8 * p + q) = true → 0 < s → s < 5 → ¬ gMt T p q s ∧ R (8 * tA T p s + tA T q s) = true := fun p q s ⟨y1, y2, y3⟩ s0 s5 => by
    obtain ⟨m, m1, m2⟩ := h2 _ y3
    have := h5 m s m1 s0 s5 (Or.inl (by omega))
    have f1 : qu m / 8 = p := by omega
    have f2 : qu m % 8 = q := by omega
    rw [f1, f2] at this
    exact this
  exact gBr_no (S := fun p q => p < tP T ∧ q < tP T ∧ R (8 * p + q) = true) ⟨ha, hb, h3⟩ (fun p q s y s0 s5 => ⟨tA_lt hT y.1, tA_lt hT y.2.1, (key p q s y s0 s5).2⟩) (fun p q s y s0 s5 => (key p q s y s0 s5).1)
theorem sp_reach1 {x y : Nat} (hW : jWd L t μ) (hx : x < 8) (hy : y < 8) (e : gI μ 45 (8 * x + y) = 1) (h : Q none μ) : jC d 22 [.ref 43, .int (nI x), .int (nI y)] μ Q := by
  rw [Nat.mul_comm 8 x] at e
  have s45 : gS μ 45 = (103, 64) := (hW.1 45).trans (jS0_45 L)
  refine e22 (b22_0 ?_)
  repeat' (first | refine b22_69 ?_ | dsimp only [jb_e0, jb_ec, jb_n, jb_c, jx_op, j1i_c, j2i_c, j1l_c, j2l_c, jil_c, j1r_c, jri_c, jrii_c, jril_c, jrl_c, jrr_c, j2i'_c, jdup_i, jdup_r, jdup2_c, jdup2_l, jpo_c, jli, jll, jlr, jat_0, jat_s, jst, jst2, jkill_i, jkill_r, jkill_l, jkill_n, jnone, jgv_0, jgv_1, jgv_2, jgv_3, jrv_s, jput_0, jput_1, jput_2, jput_3, jpop_0, jpop_1, jcl_s, jc1, jc2, jvi, Nat.reduceAdd, jol_i, jol_l, jol_n, jap_n, jap_c, List.map_cons, List.map_nil, List.sum_cons, List.sum_nil, jcI, jcL, jcR, gI_sI, gI_sL, gI_sR, gL_sI, gL_sL, gL_sR, gR_sI, gR_sL, gR_sR, gS_sI, gS_sL, gS_sR, gN_sI, gN_sL, gN_sR] | simp (disch := omega) only [Nat.zero_le, true_and, and_true, and_self, Nat.reduceLeDiff, true_or, or_true, false_or, or_false, Nat.reduceEqDiff, false_and, and_false, if_false, if_true, reduceIte, not_true_eq_false, not_false_eq_true, true_imp_iff, false_imp_iff, List.map_cons, List.map_nil, List.sum_cons, List.sum_nil, jcI, jcL, jcR, Nat.reduceAdd, jrv_s, j1r_c, jap_n, jap_c, gI_sI, gL_sL, gI_sL, gL_sI, an_lt, an_le, an_eq, an_lt0, an_0le, an_0lt, an_le0, an_eq0, an_eq1, an_1lt, an_le1, an_1le, an_lt1, an_eqm, an_sub, an_sub1, an_div, an_rem, an_in, an_in0, an_in1, an_cl, an_cl0, an_cl1, nI_add, nI_1, an_1a, pk_mul, Nat.reduceMul, jz10, jz01, j00, j11, jb0, Classical.not_not, eq_self, an_ite, an_of, an_nm, nI_l, lN_add, lN_mul, lN_i, lj_2, lj_3, lj_4, lj_5, lj_6, lj_7, lj_8, lj_9, lj_10, lj_11, lj_12, lj_13, lj_14, lj_15, lj_16, lj_17, lj_18, lj_19, lj_20, lj_21, lj_22, lj_23, lj_24, lj_25, lj_26, lj_27, lj_28, lj_29, lj_30, lj_31, lj_32, lj_33, lj_34, lj_35, lj_36, lj_37, lj_38, lj_39, lj_40, lj_48, lj_50, lj_57, lj_59, lj_60, lj_63, lj_64, lj_65, lj_90, lj_96, lj_97, lj_99, lj_100, lj_101, lj_105, lj_112, lj_114, lj_116, lj_119, lj_122, lj_128, lj_200, lj_255, lj_256, lj_500, lj_777, lj_1000, hW.1, jr_43_0 hW, jr_43_1 hW, jr_43_2 hW, jr_43_4 hW, hW.1, jS0_43, jS0_44, jS0_45, jS0_46, jS0_47, s45, e] | (refine br_c (fun _ => ?_) (fun _ => ?_) <;> try (exfalso; omega)) | (refine br_d (fun _ => ?_) (fun _ => ?_) <;> try (exfalso; omega)) | refine And.intro ?_ ?_ | (refine Nat.ne_of_gt ?_; omega))
  all_goals exact h
theorem sp_reach0 {x y : Nat} (hW : jWd L t μ) (hx : x < 8) (hy : y < 8) (hn : n < 64) (e : gI μ 45 (8 * x + y) = 0) (en : gI μ 43 3 = nI n) (h : Q none (sI (sI (sI μ 45 (8 * x + y) 1) 46 n (nI (8 * x + y))) 43 3 (nI (n + 1)))) : jC d 22 [.ref 43, .int (nI x), .int (nI y)] μ Q := by
  rw [Nat.mul_comm 8 x] at e h
  have s45 : gS μ 45 = (103, 64) := (hW.1 45).trans (jS0_45 L)
  refine e22 (b22_0 ?_)
  repeat' (first | refine b22_69 ?_ | dsimp only [jb_e0, jb_ec, jb_n, jb_c, jx_op, j1i_c, j2i_c, j1l_c, j2l_c, jil_c, j1r_c, jri_c, jrii_c, jril_c, jrl_c, jrr_c, j2i'_c, jdup_i, jdup_r, jdup2_c, jdup2_l, jpo_c, jli, jll, jlr, jat_0, jat_s, jst, jst2, jkill_i, jkill_r, jkill_l, jkill_n, jnone, jgv_0, jgv_1, jgv_2, jgv_3, jrv_s, jput_0, jput_1, jput_2, jput_3, jpop_0, jpop_1, jcl_s, jc1, jc2, jvi, Nat.reduceAdd, jol_i, jol_l, jol_n, jap_n, jap_c, List.map_cons, List.map_nil, List.sum_cons, List.sum_nil, jcI, jcL, jcR, gI_sI, gI_sL, gI_sR, gL_sI, gL_sL, gL_sR, gR_sI, gR_sL, gR_sR, gS_sI, gS_sL, gS_sR, gN_sI, gN_sL, gN_sR] | simp (disch := omega) only [Nat.zero_le, true_and, and_true, and_self, Nat.reduceLeDiff, true_or, or_true, false_or, or_false, Nat.reduceEqDiff, false_and, and_false, if_false, if_true, reduceIte, not_true_eq_false, not_false_eq_true, true_imp_iff, false_imp_iff, List.map_cons, List.map_nil, List.sum_cons, List.sum_nil, jcI, jcL, jcR, Nat.reduceAdd, jrv_s, j1r_c, jap_n, jap_c, gI_sI, gL_sL, gI_sL, gL_sI, an_lt, an_le, an_eq, an_lt0, an_0le, an_0lt, an_le0, an_eq0, an_eq1, an_1lt, an_le1, an_1le, an_lt1, an_eqm, an_sub, an_sub1, an_div, an_rem, an_in, an_in0, an_in1, an_cl, an_cl0, an_cl1, nI_add, nI_1, an_1a, pk_mul, Nat.reduceMul, jz10, jz01, j00, j11, jb0, Classical.not_not, eq_self, an_ite, an_of, an_nm, nI_l, lN_add, lN_mul, lN_i, lj_2, lj_3, lj_4, lj_5, lj_6, lj_7, lj_8, lj_9, lj_10, lj_11, lj_12, lj_13, lj_14, lj_15, lj_16, lj_17, lj_18, lj_19, lj_20, lj_21, lj_22, lj_23, lj_24, lj_25, lj_26, lj_27, lj_28, lj_29, lj_30, lj_31, lj_32, lj_33, lj_34, lj_35, lj_36, lj_37, lj_38, lj_39, lj_40, lj_48, lj_50, lj_57, lj_59, lj_60, lj_63, lj_64, lj_65, lj_90, lj_96, lj_97, lj_99, lj_100, lj_101, lj_105, lj_112, lj_114, lj_116, lj_119, lj_122, lj_128, lj_200, lj_255, lj_256, lj_500, lj_777, lj_1000, hW.1, jr_43_0 hW, jr_43_1 hW, jr_43_2 hW, jr_43_4 hW, hW.1, jS0_43, jS0_44, jS0_45, jS0_46, jS0_47, s45, e, en] | (refine br_c (fun _ => ?_) (fun _ => ?_) <;> try (exfalso; omega)) | (refine br_d (fun _ => ?_) (fun _ => ?_) <;> try (exfalso; omega)) | refine And.intro ?_ ?_ | (refine Nat.ne_of_gt ?_; omega))
  all_goals exact h
end JPD
